set_option maxHeartbeats 4000000 in
set_option maxRecDepth 100000 in
theorem c_M_begin {l : Launch} {D : va_G} {A : Nat → Prop} {cI cB cZ cJ cN : ClassId} {ob : Nat → Nat} {C : CT} {T : TS} {O : OS} {dom : Nat → Prop} {loc : Nat → Nat} {val : Nat → va_E} (hM : ModI cI cB cZ ob C T O dom loc val) (hO : OI O) (k n : Int32) (hT : TrI T) : kM l y_M_begin (Cond.code y_M_begin b_M_begin 5 (some FieldType.int) :: TT) (rmM 3) D CL (TY cI cB cZ cJ cN) A [.ref (ob 48), .int k, .int n] dom loc val (fun rv d lo va kc ns => dom = d ∧ loc = lo ∧ kc = 0 ∧ ns = 0 ∧ ∃ T2 O2, ((¬ (flM T = 0 ∧ gdM T k n) ∧ T = T2 ∧ rv = some (.int 0)) ∨ (flM T = 0 ∧ gdM T k n ∧ bgT T k n = T2 ∧ rv = some (.int (nI (ttN T))))) ∧ ModI cI cB cZ ob C T2 O2 dom loc va ∧ OI O2 ∧ frM val va) := by
  refine kM_of (lv0 := [some (.ref (ob 48)), some (.int k), some (.int n), none, none]) (own := "ProsePagesModel") (by decide) rfl (List.forall_mem_cons.mpr ⟨rfl, List.forall_mem_cons.mpr ⟨rfl, List.forall_mem_cons.mpr ⟨rfl, fun _ h => nomatch h⟩⟩⟩) (Nat.le_of_ble_eq_true rfl) rfl (Nat.le_of_ble_eq_true rfl) (fun X hl hX hE hin0 => ?_)
  have hTn := hT.1
  have j64 : ∀ (g : Int32) (CJ : CT) (oJ : OS) (vaJ : Nat → va_E), ModI cI cB cZ ob CJ T oJ dom loc vaJ → (OI oJ ∧ ooCt oJ = ooCt O) → frM val vaJ → (C = CJ) → ((g = 1 ∧ gdM T k n) ∨ (g = 0 ∧ ¬ gdM T k n)) → V X D CL A dom loc vaJ 0 0 64 [some (.ref (ob 48)), some (.int k), some (.int n), some (.int g), none] [] := by
    intro g CJ oJ vaJ hMJ hOJ hfJ hCJ hg
    subst hCJ
    rcases hg with ⟨rfl, hg⟩ | ⟨rfl, hg⟩
    · refine v_aload_n hX d_M_begin_64 rfl rfl ?_
      refine v_aload_n hX d_M_begin_65 rfl rfl ?_
      refine c_V hX 48 (rest := [.ref (ob 48)]) hl (c_M_isFull hMJ hOJ.1 hT) ml_M_137 im_M_isFull se_M_isFull in_M cd_M_isFull rfl q_M_isFull ⟨(Nat.le_of_ble_eq_true rfl), (Nat.le_of_ble_eq_true rfl)⟩ hMJ.1.1 hMJ.1.2.1 hMJ.1.2.2 rfl rfl rfl rfl (Nat.le_of_ble_eq_true rfl) d_M_begin_66 ⟨(Nat.le_of_ble_eq_true rfl), (Nat.le_of_ble_eq_true rfl)⟩ (fun rv d2 lo2 va2 kc ns hp => ?_)
      obtain ⟨rfl, rfl, rfl, rfl, rfl, rfl⟩ := hp
      show V X D CL A _ _ _ _ _ _ _ (.int (flM T) :: [.ref (ob 48)])
      refine v_if_eq hX d_M_begin_69 (tgt := 76) (by decide) (fun c69 => ?_) (fun c69 => ?_)
      · refine v_iload_n hX d_M_begin_76 rfl rfl ?_
        refine v_if_eq hX d_M_begin_77 (tgt := 84) (by decide) (fun c => absurd c (by decide)) (fun _ => ?_)
        refine v_iconst (v := 0) hX d_M_begin_80 (by decide) ?_
        refine v_goto hX d_M_begin_81 (tgt := 85) (by decide) ?_
        refine v_mput hX hMJ 0 C T (soTh oJ 0) (by decide) fl_M_97 rfl rfl rfl rfl pf_thrown pa_thrown d_M_begin_85 (fun va1 hM1 hf1 => ?_)
        refine v_aload_n hX d_M_begin_88 rfl rfl ?_
        refine v_mget hX hM1 0 (v := .int 0) (by decide) fl_M_97 rfl hf_thrown d_M_begin_89 ?_
        refine v_if_le hX d_M_begin_92 (tgt := 97) (by decide) (fun _ => ?_) (fun c => absurd (by decide) c)
        have hroom := fl_room hT c69
        refine v_aload_n hX d_M_begin_97 rfl rfl ?_
        refine v_iload_n hX d_M_begin_98 rfl rfl ?_
        refine v_iload_n hX d_M_begin_99 rfl rfl ?_
        refine v_iconst (v := 1) hX d_M_begin_100 (by decide) ?_
        refine v_icmp_eq hX d_M_begin_101 (tgt := 110) (by decide) (fun c101 => ?_) (fun c101 => ?_)
        · refine v_iload_n hX d_M_begin_110 rfl rfl ?_
          refine v_goto hX d_M_begin_111 (tgt := 115) (by decide) ?_
          refine c_V hX 48 (rest := []) hl (c_M_add hM1 ⟨hOJ.1.1, hOJ.1.2.1, hOJ.1.2.2.1, hOJ.1.2.2.2.1, (by have q9 := hOJ.1.2.2.2.2; first | exact q9 | omega | (show (ooSm oJ) ≤ 4300; omega))⟩ k n hT hroom.1) ml_M_141 im_M_add se_M_add in_M cd_M_add rfl q_M_add ⟨(Nat.le_of_ble_eq_true rfl), (Nat.le_of_ble_eq_true rfl)⟩ hM1.1.1 hM1.1.2.1 hM1.1.2.2 rfl rfl rfl rfl (Nat.le_of_ble_eq_true rfl) d_M_begin_115 ⟨(Nat.le_of_ble_eq_true rfl), (Nat.le_of_ble_eq_true rfl)⟩ (fun rv d2 lo2 va2 kc ns hp => ?_)
          obtain ⟨rfl, rfl, rfl, rfl, _, o2, ⟨rfl, rfl⟩, hM2, hO2, hf2⟩ := hp
          show V X D CL A _ _ _ _ _ _ _ (.int (nI (ttN T)) :: [])
          refine v_istore (lv' := [some (.ref (ob 48)), some (.int k), some (.int n), some (.int 1), some (.int (nI (ttN T)))]) hX d_M_begin_118 (Nat.le_of_ble_eq_true rfl) rfl ?_
          refine v_iload_n hX d_M_begin_120 rfl rfl ?_
          refine v_iconst (v := 2) hX d_M_begin_121 (by decide) ?_
          refine v_icmp_eq hX d_M_begin_122 (tgt := 137) (by decide) (fun c122 => ?_) (fun c122 => ?_)
          · refine v_iload hX d_M_begin_137 rfl ?_
            exact v_iret hX hE d_M_begin_139 (Nat.le_of_ble_eq_true rfl) (Nat.le_of_ble_eq_true rfl) ⟨rfl, rfl, rfl, rfl, (bgT T k n), o2, (Or.inr ⟨c69, hg, rfl, rfl⟩), (by unfold bgT bgN; rw [if_pos (Or.inl c122), if_pos (Or.inl c101)]; exact hM2.ad), hO2, ((hfJ.trans hf1).trans hf2)⟩
          · refine v_iload_n hX d_M_begin_125 rfl rfl ?_
            refine v_bipush (v := 9) hX d_M_begin_126 (by decide) ?_
            refine v_icmp_eq hX d_M_begin_128 (tgt := 137) (by decide) (fun c128 => ?_) (fun c128 => ?_)
            · refine v_iload hX d_M_begin_137 rfl ?_
              exact v_iret hX hE d_M_begin_139 (Nat.le_of_ble_eq_true rfl) (Nat.le_of_ble_eq_true rfl) ⟨rfl, rfl, rfl, rfl, (bgT T k n), o2, (Or.inr ⟨c69, hg, rfl, rfl⟩), (by unfold bgT bgN; rw [if_pos (Or.inr c128), if_pos (Or.inl c101)]; exact hM2.ad), hO2, ((hfJ.trans hf1).trans hf2)⟩
            · refine v_aload_n hX d_M_begin_131 rfl rfl ?_
              refine v_iload hX d_M_begin_132 rfl ?_
              refine v_mput hX hM2 11 C (sxHa (adT0 T k n) (ttN T)) o2 (by decide) fl_M_107 rfl rfl rfl rfl pf_hand pa_hand d_M_begin_134 (fun va3 hM3 hf3 => ?_)
              refine v_iload hX d_M_begin_137 rfl ?_
              exact v_iret hX hE d_M_begin_139 (Nat.le_of_ble_eq_true rfl) (Nat.le_of_ble_eq_true rfl) ⟨rfl, rfl, rfl, rfl, (bgT T k n), o2, (Or.inr ⟨c69, hg, rfl, rfl⟩), (by unfold bgT bgN; rw [if_neg (fun z => z.elim c122 c128), if_pos (Or.inl c101)]; exact hM3.haad), hO2, (((hfJ.trans hf1).trans hf2).trans hf3)⟩
        · refine v_iload_n hX d_M_begin_104 rfl rfl ?_
          refine v_bipush (v := 6) hX d_M_begin_105 (by decide) ?_
          refine v_icmp_ne hX d_M_begin_107 (tgt := 114) (by decide) (fun c107 => ?_) (fun c107 => ?_)
          · refine v_iconst (v := 0) hX d_M_begin_114 (by decide) ?_
            refine c_V hX 48 (rest := []) hl (c_M_add hM1 ⟨hOJ.1.1, hOJ.1.2.1, hOJ.1.2.2.1, hOJ.1.2.2.2.1, (by have q9 := hOJ.1.2.2.2.2; first | exact q9 | omega | (show (ooSm oJ) ≤ 4300; omega))⟩ k 0 hT hroom.1) ml_M_141 im_M_add se_M_add in_M cd_M_add rfl q_M_add ⟨(Nat.le_of_ble_eq_true rfl), (Nat.le_of_ble_eq_true rfl)⟩ hM1.1.1 hM1.1.2.1 hM1.1.2.2 rfl rfl rfl rfl (Nat.le_of_ble_eq_true rfl) d_M_begin_115 ⟨(Nat.le_of_ble_eq_true rfl), (Nat.le_of_ble_eq_true rfl)⟩ (fun rv d2 lo2 va4 kc ns hp => ?_)
            obtain ⟨rfl, rfl, rfl, rfl, _, o4, ⟨rfl, rfl⟩, hM4, hO4, hf4⟩ := hp
            show V X D CL A _ _ _ _ _ _ _ (.int (nI (ttN T)) :: [])
            refine v_istore (lv' := [some (.ref (ob 48)), some (.int k), some (.int n), some (.int 1), some (.int (nI (ttN T)))]) hX d_M_begin_118 (Nat.le_of_ble_eq_true rfl) rfl ?_
            refine v_iload_n hX d_M_begin_120 rfl rfl ?_
            refine v_iconst (v := 2) hX d_M_begin_121 (by decide) ?_
            refine v_icmp_eq hX d_M_begin_122 (tgt := 137) (by decide) (fun c122 => ?_) (fun c122 => ?_)
            · refine v_iload hX d_M_begin_137 rfl ?_
              exact v_iret hX hE d_M_begin_139 (Nat.le_of_ble_eq_true rfl) (Nat.le_of_ble_eq_true rfl) ⟨rfl, rfl, rfl, rfl, (bgT T k n), o4, (Or.inr ⟨c69, hg, rfl, rfl⟩), (by unfold bgT bgN; rw [if_pos (Or.inl c122), if_neg (fun z => z.elim c101 c107)]; exact hM4.ad), hO4, ((hfJ.trans hf1).trans hf4)⟩
            · refine v_iload_n hX d_M_begin_125 rfl rfl ?_
              refine v_bipush (v := 9) hX d_M_begin_126 (by decide) ?_
              refine v_icmp_eq hX d_M_begin_128 (tgt := 137) (by decide) (fun c128 => ?_) (fun c128 => ?_)
              · refine v_iload hX d_M_begin_137 rfl ?_
                exact v_iret hX hE d_M_begin_139 (Nat.le_of_ble_eq_true rfl) (Nat.le_of_ble_eq_true rfl) ⟨rfl, rfl, rfl, rfl, (bgT T k n), o4, (Or.inr ⟨c69, hg, rfl, rfl⟩), (by unfold bgT bgN; rw [if_pos (Or.inr c128), if_neg (fun z => z.elim c101 c107)]; exact hM4.ad), hO4, ((hfJ.trans hf1).trans hf4)⟩
              · refine v_aload_n hX d_M_begin_131 rfl rfl ?_
                refine v_iload hX d_M_begin_132 rfl ?_
                refine v_mput hX hM4 11 C (sxHa (adT0 T k 0) (ttN T)) o4 (by decide) fl_M_107 rfl rfl rfl rfl pf_hand pa_hand d_M_begin_134 (fun va5 hM5 hf5 => ?_)
                refine v_iload hX d_M_begin_137 rfl ?_
                exact v_iret hX hE d_M_begin_139 (Nat.le_of_ble_eq_true rfl) (Nat.le_of_ble_eq_true rfl) ⟨rfl, rfl, rfl, rfl, (bgT T k n), o4, (Or.inr ⟨c69, hg, rfl, rfl⟩), (by unfold bgT bgN; rw [if_neg (fun z => z.elim c122 c128), if_neg (fun z => z.elim c101 c107)]; exact hM5.haad), hO4, (((hfJ.trans hf1).trans hf4).trans hf5)⟩
          · refine v_iload_n hX d_M_begin_110 rfl rfl ?_
            refine v_goto hX d_M_begin_111 (tgt := 115) (by decide) ?_
            refine c_V hX 48 (rest := []) hl (c_M_add hM1 ⟨hOJ.1.1, hOJ.1.2.1, hOJ.1.2.2.1, hOJ.1.2.2.2.1, (by have q9 := hOJ.1.2.2.2.2; first | exact q9 | omega | (show (ooSm oJ) ≤ 4300; omega))⟩ k n hT hroom.1) ml_M_141 im_M_add se_M_add in_M cd_M_add rfl q_M_add ⟨(Nat.le_of_ble_eq_true rfl), (Nat.le_of_ble_eq_true rfl)⟩ hM1.1.1 hM1.1.2.1 hM1.1.2.2 rfl rfl rfl rfl (Nat.le_of_ble_eq_true rfl) d_M_begin_115 ⟨(Nat.le_of_ble_eq_true rfl), (Nat.le_of_ble_eq_true rfl)⟩ (fun rv d2 lo2 va6 kc ns hp => ?_)
            obtain ⟨rfl, rfl, rfl, rfl, _, o6, ⟨rfl, rfl⟩, hM6, hO6, hf6⟩ := hp
            show V X D CL A _ _ _ _ _ _ _ (.int (nI (ttN T)) :: [])
            refine v_istore (lv' := [some (.ref (ob 48)), some (.int k), some (.int n), some (.int 1), some (.int (nI (ttN T)))]) hX d_M_begin_118 (Nat.le_of_ble_eq_true rfl) rfl ?_
            refine v_iload_n hX d_M_begin_120 rfl rfl ?_
            refine v_iconst (v := 2) hX d_M_begin_121 (by decide) ?_
            refine v_icmp_eq hX d_M_begin_122 (tgt := 137) (by decide) (fun c122 => ?_) (fun c122 => ?_)
            · refine v_iload hX d_M_begin_137 rfl ?_
              exact v_iret hX hE d_M_begin_139 (Nat.le_of_ble_eq_true rfl) (Nat.le_of_ble_eq_true rfl) ⟨rfl, rfl, rfl, rfl, (bgT T k n), o6, (Or.inr ⟨c69, hg, rfl, rfl⟩), (by unfold bgT bgN; rw [if_pos (Or.inl c122), if_pos (Or.inr c107)]; exact hM6.ad), hO6, ((hfJ.trans hf1).trans hf6)⟩
            · refine v_iload_n hX d_M_begin_125 rfl rfl ?_
              refine v_bipush (v := 9) hX d_M_begin_126 (by decide) ?_
              refine v_icmp_eq hX d_M_begin_128 (tgt := 137) (by decide) (fun c128 => ?_) (fun c128 => ?_)
              · refine v_iload hX d_M_begin_137 rfl ?_
                exact v_iret hX hE d_M_begin_139 (Nat.le_of_ble_eq_true rfl) (Nat.le_of_ble_eq_true rfl) ⟨rfl, rfl, rfl, rfl, (bgT T k n), o6, (Or.inr ⟨c69, hg, rfl, rfl⟩), (by unfold bgT bgN; rw [if_pos (Or.inr c128), if_pos (Or.inr c107)]; exact hM6.ad), hO6, ((hfJ.trans hf1).trans hf6)⟩
              · refine v_aload_n hX d_M_begin_131 rfl rfl ?_
                refine v_iload hX d_M_begin_132 rfl ?_
                refine v_mput hX hM6 11 C (sxHa (adT0 T k n) (ttN T)) o6 (by decide) fl_M_107 rfl rfl rfl rfl pf_hand pa_hand d_M_begin_134 (fun va7 hM7 hf7 => ?_)
                refine v_iload hX d_M_begin_137 rfl ?_
                exact v_iret hX hE d_M_begin_139 (Nat.le_of_ble_eq_true rfl) (Nat.le_of_ble_eq_true rfl) ⟨rfl, rfl, rfl, rfl, (bgT T k n), o6, (Or.inr ⟨c69, hg, rfl, rfl⟩), (by unfold bgT bgN; rw [if_neg (fun z => z.elim c122 c128), if_pos (Or.inr c107)]; exact hM7.haad), hO6, (((hfJ.trans hf1).trans hf6).trans hf7)⟩
      · refine v_iconst (v := 1) hX d_M_begin_72 (by decide) ?_
        refine v_goto hX d_M_begin_73 (tgt := 85) (by decide) ?_
        refine v_mput hX hMJ 0 C T (soTh oJ 1) (by decide) fl_M_97 rfl rfl rfl rfl pf_thrown pa_thrown d_M_begin_85 (fun va8 hM8 hf8 => ?_)
        refine v_aload_n hX d_M_begin_88 rfl rfl ?_
        refine v_mget hX hM8 0 (v := .int 1) (by decide) fl_M_97 rfl hf_thrown d_M_begin_89 ?_
        refine v_if_le hX d_M_begin_92 (tgt := 97) (by decide) (fun c => absurd c (by decide)) (fun _ => ?_)
        refine v_iconst (v := 0) hX d_M_begin_95 (by decide) ?_
        exact v_iret hX hE d_M_begin_96 (Nat.le_of_ble_eq_true rfl) (Nat.le_of_ble_eq_true rfl) ⟨rfl, rfl, rfl, rfl, T, (soTh oJ 1), (Or.inl ⟨(fun z => absurd z.1 c69), rfl, rfl⟩), hM8, ⟨hOJ.1.1, hOJ.1.2.1, hOJ.1.2.2.1, hOJ.1.2.2.2.1, (by have q9 := hOJ.1.2.2.2.2; first | exact q9 | omega | (show (ooSm oJ) ≤ 4300; omega))⟩, (hfJ.trans hf8)⟩
    · refine v_aload_n hX d_M_begin_64 rfl rfl ?_
      refine v_aload_n hX d_M_begin_65 rfl rfl ?_
      refine c_V hX 48 (rest := [.ref (ob 48)]) hl (c_M_isFull hMJ hOJ.1 hT) ml_M_137 im_M_isFull se_M_isFull in_M cd_M_isFull rfl q_M_isFull ⟨(Nat.le_of_ble_eq_true rfl), (Nat.le_of_ble_eq_true rfl)⟩ hMJ.1.1 hMJ.1.2.1 hMJ.1.2.2 rfl rfl rfl rfl (Nat.le_of_ble_eq_true rfl) d_M_begin_66 ⟨(Nat.le_of_ble_eq_true rfl), (Nat.le_of_ble_eq_true rfl)⟩ (fun rv d2 lo2 va2 kc ns hp => ?_)
      obtain ⟨rfl, rfl, rfl, rfl, rfl, rfl⟩ := hp
      show V X D CL A _ _ _ _ _ _ _ (.int (flM T) :: [.ref (ob 48)])
      refine v_if_eq hX d_M_begin_69 (tgt := 76) (by decide) (fun c69 => ?_) (fun c69 => ?_)
      · refine v_iload_n hX d_M_begin_76 rfl rfl ?_
        refine v_if_eq hX d_M_begin_77 (tgt := 84) (by decide) (fun _ => ?_) (fun c => absurd (by decide) c)
        refine v_iconst (v := 2) hX d_M_begin_84 (by decide) ?_
        refine v_mput hX hMJ 0 C T (soTh oJ 2) (by decide) fl_M_97 rfl rfl rfl rfl pf_thrown pa_thrown d_M_begin_85 (fun va9 hM9 hf9 => ?_)
        refine v_aload_n hX d_M_begin_88 rfl rfl ?_
        refine v_mget hX hM9 0 (v := .int 2) (by decide) fl_M_97 rfl hf_thrown d_M_begin_89 ?_
        refine v_if_le hX d_M_begin_92 (tgt := 97) (by decide) (fun c => absurd c (by decide)) (fun _ => ?_)
        refine v_iconst (v := 0) hX d_M_begin_95 (by decide) ?_
        exact v_iret hX hE d_M_begin_96 (Nat.le_of_ble_eq_true rfl) (Nat.le_of_ble_eq_true rfl) ⟨rfl, rfl, rfl, rfl, T, (soTh oJ 2), (Or.inl ⟨(fun z => hg z.2), rfl, rfl⟩), hM9, ⟨hOJ.1.1, hOJ.1.2.1, hOJ.1.2.2.1, hOJ.1.2.2.2.1, (by have q9 := hOJ.1.2.2.2.2; first | exact q9 | omega | (show (ooSm oJ) ≤ 4300; omega))⟩, (hfJ.trans hf9)⟩
      · refine v_iconst (v := 1) hX d_M_begin_72 (by decide) ?_
        refine v_goto hX d_M_begin_73 (tgt := 85) (by decide) ?_
        refine v_mput hX hMJ 0 C T (soTh oJ 1) (by decide) fl_M_97 rfl rfl rfl rfl pf_thrown pa_thrown d_M_begin_85 (fun va10 hM10 hf10 => ?_)
        refine v_aload_n hX d_M_begin_88 rfl rfl ?_
        refine v_mget hX hM10 0 (v := .int 1) (by decide) fl_M_97 rfl hf_thrown d_M_begin_89 ?_
        refine v_if_le hX d_M_begin_92 (tgt := 97) (by decide) (fun c => absurd c (by decide)) (fun _ => ?_)
        refine v_iconst (v := 0) hX d_M_begin_95 (by decide) ?_
        exact v_iret hX hE d_M_begin_96 (Nat.le_of_ble_eq_true rfl) (Nat.le_of_ble_eq_true rfl) ⟨rfl, rfl, rfl, rfl, T, (soTh oJ 1), (Or.inl ⟨(fun z => absurd z.1 c69), rfl, rfl⟩), hM10, ⟨hOJ.1.1, hOJ.1.2.1, hOJ.1.2.2.1, hOJ.1.2.2.2.1, (by have q9 := hOJ.1.2.2.2.2; first | exact q9 | omega | (show (ooSm oJ) ≤ 4300; omega))⟩, (hfJ.trans hf10)⟩
  refine v_iload_n hX d_M_begin_0 rfl rfl ?_
  refine v_if_lt hX d_M_begin_1 (tgt := 62) (by decide) (fun c1 => ?_) (fun c1 => ?_)
  · refine v_iconst (v := 0) hX d_M_begin_62 (by decide) ?_
    refine v_istore_n (lv' := [some (.ref (ob 48)), some (.int k), some (.int n), some (.int 0), none]) hX d_M_begin_63 rfl (Nat.le_of_ble_eq_true rfl) rfl ?_
    exact j64 0 C O val hM ⟨hO, rfl⟩ frM.rf rfl (Or.inr ⟨rfl, fun z => absurd c1 (Int32.not_lt.mpr z.1)⟩)
  · refine v_iload_n hX d_M_begin_4 rfl rfl ?_
    refine v_bipush (v := 9) hX d_M_begin_5 (by decide) ?_
    refine v_icmp_gt hX d_M_begin_7 (tgt := 62) (by decide) (fun c7 => ?_) (fun c7 => ?_)
    · refine v_iconst (v := 0) hX d_M_begin_62 (by decide) ?_
      refine v_istore_n (lv' := [some (.ref (ob 48)), some (.int k), some (.int n), some (.int 0), none]) hX d_M_begin_63 rfl (Nat.le_of_ble_eq_true rfl) rfl ?_
      exact j64 0 C O val hM ⟨hO, rfl⟩ frM.rf rfl (Or.inr ⟨rfl, fun z => absurd c7 (Int32.not_lt.mpr z.2.1)⟩)
    · refine v_aload_n hX d_M_begin_10 rfl rfl ?_
      refine v_mget hX hM 1 (v := .ref (ob 49)) (by decide) fl_M_7 rfl rfl d_M_begin_11 ?_
      refine v_aload_n hX d_M_begin_14 rfl rfl ?_
      refine v_mget hX hM 11 (v := .int (nI (ttHa T))) (by decide) fl_M_107 rfl gf_hand d_M_begin_15 ?_
      refine v_mild hX hM 0 (i := (ttHa T)) (v := ((ttK T) (ttHa T))) ga_kind (by omega) (by decide) rfl d_M_begin_18 ?_
      refine v_iload_n hX d_M_begin_19 rfl rfl ?_
      refine c_S hX (rest := []) hl (c_M_mayHold ((ttK T) (ttHa T)) k) ml_M_132 sm_M_mayHold in_M cd_M_mayHold rfl q_M_mayHold ⟨(Nat.le_of_ble_eq_true rfl), (Nat.le_of_ble_eq_true rfl)⟩ rfl rfl rfl (Nat.le_of_ble_eq_true rfl) d_M_begin_20 ⟨(Nat.le_of_ble_eq_true rfl), (Nat.le_of_ble_eq_true rfl)⟩ (fun rv d2 lo2 va2 kc ns hp => ?_)
      obtain ⟨rfl, rfl, rfl, rfl, rfl, rfl⟩ := hp
      show V X D CL A _ _ _ _ _ _ _ (.int (mh ((ttK T) (ttHa T)) k) :: [])
      refine v_if_eq hX d_M_begin_23 (tgt := 62) (by decide) (fun c23 => ?_) (fun c23 => ?_)
      · refine v_iconst (v := 0) hX d_M_begin_62 (by decide) ?_
        refine v_istore_n (lv' := [some (.ref (ob 48)), some (.int k), some (.int n), some (.int 0), none]) hX d_M_begin_63 rfl (Nat.le_of_ble_eq_true rfl) rfl ?_
        exact j64 0 C O val hM ⟨hO, rfl⟩ frM.rf rfl (Or.inr ⟨rfl, fun z => absurd (c23.symm.trans z.2.2.1) (by decide)⟩)
      · refine v_iload_n hX d_M_begin_26 rfl rfl ?_
        refine v_iconst (v := 1) hX d_M_begin_27 (by decide) ?_
        refine v_icmp_ne hX d_M_begin_28 (tgt := 42) (by decide) (fun c28 => ?_) (fun c28 => ?_)
        · refine v_iload_n hX d_M_begin_42 rfl rfl ?_
          refine v_bipush (v := 6) hX d_M_begin_43 (by decide) ?_
          refine v_icmp_ne hX d_M_begin_45 (tgt := 58) (by decide) (fun c45 => ?_) (fun c45 => ?_)
          · refine v_iconst (v := 1) hX d_M_begin_58 (by decide) ?_
            refine v_goto hX d_M_begin_59 (tgt := 63) (by decide) ?_
            refine v_istore_n (lv' := [some (.ref (ob 48)), some (.int k), some (.int n), some (.int 1), none]) hX d_M_begin_63 rfl (Nat.le_of_ble_eq_true rfl) rfl ?_
            exact j64 1 C O val hM ⟨hO, rfl⟩ frM.rf rfl (Or.inl ⟨rfl, Int32.not_lt.mp c1, Int32.not_lt.mp c7, (mh_01 _ _).resolve_left c23, (fun e => absurd e c28), (fun e => absurd e c45)⟩)
          · refine v_iload_n hX d_M_begin_48 rfl rfl ?_
            refine v_if_lt hX d_M_begin_49 (tgt := 62) (by decide) (fun c49 => ?_) (fun c49 => ?_)
            · refine v_iconst (v := 0) hX d_M_begin_62 (by decide) ?_
              refine v_istore_n (lv' := [some (.ref (ob 48)), some (.int k), some (.int n), some (.int 0), none]) hX d_M_begin_63 rfl (Nat.le_of_ble_eq_true rfl) rfl ?_
              exact j64 0 C O val hM ⟨hO, rfl⟩ frM.rf rfl (Or.inr ⟨rfl, fun z => absurd c49 (Int32.not_lt.mpr (z.2.2.2.2 c45).1)⟩)
            · refine v_iload_n hX d_M_begin_52 rfl rfl ?_
              refine v_ldc (v := 999999999) hX ct_M_136 d_M_begin_53 ?_
              refine v_icmp_gt hX d_M_begin_55 (tgt := 62) (by decide) (fun c55 => ?_) (fun c55 => ?_)
              · refine v_iconst (v := 0) hX d_M_begin_62 (by decide) ?_
                refine v_istore_n (lv' := [some (.ref (ob 48)), some (.int k), some (.int n), some (.int 0), none]) hX d_M_begin_63 rfl (Nat.le_of_ble_eq_true rfl) rfl ?_
                exact j64 0 C O val hM ⟨hO, rfl⟩ frM.rf rfl (Or.inr ⟨rfl, fun z => absurd c55 (Int32.not_lt.mpr (z.2.2.2.2 c45).2)⟩)
              · refine v_iconst (v := 1) hX d_M_begin_58 (by decide) ?_
                refine v_goto hX d_M_begin_59 (tgt := 63) (by decide) ?_
                refine v_istore_n (lv' := [some (.ref (ob 48)), some (.int k), some (.int n), some (.int 1), none]) hX d_M_begin_63 rfl (Nat.le_of_ble_eq_true rfl) rfl ?_
                exact j64 1 C O val hM ⟨hO, rfl⟩ frM.rf rfl (Or.inl ⟨rfl, Int32.not_lt.mp c1, Int32.not_lt.mp c7, (mh_01 _ _).resolve_left c23, (fun e => absurd e c28), (fun _ => ⟨Int32.not_lt.mp c49, Int32.not_lt.mp c55⟩)⟩)
        · refine v_iload_n hX d_M_begin_31 rfl rfl ?_
          refine v_iconst (v := 1) hX d_M_begin_32 (by decide) ?_
          refine v_icmp_lt hX d_M_begin_33 (tgt := 62) (by decide) (fun c33 => ?_) (fun c33 => ?_)
          · refine v_iconst (v := 0) hX d_M_begin_62 (by decide) ?_
            refine v_istore_n (lv' := [some (.ref (ob 48)), some (.int k), some (.int n), some (.int 0), none]) hX d_M_begin_63 rfl (Nat.le_of_ble_eq_true rfl) rfl ?_
            exact j64 0 C O val hM ⟨hO, rfl⟩ frM.rf rfl (Or.inr ⟨rfl, fun z => absurd c33 (Int32.not_lt.mpr (z.2.2.2.1 c28).1)⟩)
          · refine v_iload_n hX d_M_begin_36 rfl rfl ?_
            refine v_bipush (v := 6) hX d_M_begin_37 (by decide) ?_
            refine v_icmp_gt hX d_M_begin_39 (tgt := 62) (by decide) (fun c39 => ?_) (fun c39 => ?_)
            · refine v_iconst (v := 0) hX d_M_begin_62 (by decide) ?_
              refine v_istore_n (lv' := [some (.ref (ob 48)), some (.int k), some (.int n), some (.int 0), none]) hX d_M_begin_63 rfl (Nat.le_of_ble_eq_true rfl) rfl ?_
              exact j64 0 C O val hM ⟨hO, rfl⟩ frM.rf rfl (Or.inr ⟨rfl, fun z => absurd c39 (Int32.not_lt.mpr (z.2.2.2.1 c28).2)⟩)
            · refine v_iload_n hX d_M_begin_42 rfl rfl ?_
              refine v_bipush (v := 6) hX d_M_begin_43 (by decide) ?_
              refine v_icmp_ne hX d_M_begin_45 (tgt := 58) (by decide) (fun c45 => ?_) (fun c45 => ?_)
              · refine v_iconst (v := 1) hX d_M_begin_58 (by decide) ?_
                refine v_goto hX d_M_begin_59 (tgt := 63) (by decide) ?_
                refine v_istore_n (lv' := [some (.ref (ob 48)), some (.int k), some (.int n), some (.int 1), none]) hX d_M_begin_63 rfl (Nat.le_of_ble_eq_true rfl) rfl ?_
                exact j64 1 C O val hM ⟨hO, rfl⟩ frM.rf rfl (Or.inl ⟨rfl, Int32.not_lt.mp c1, Int32.not_lt.mp c7, (mh_01 _ _).resolve_left c23, (fun _ => ⟨Int32.not_lt.mp c33, Int32.not_lt.mp c39⟩), (fun e => absurd e c45)⟩)
              · refine v_iload_n hX d_M_begin_48 rfl rfl ?_
                refine v_if_lt hX d_M_begin_49 (tgt := 62) (by decide) (fun c49 => ?_) (fun c49 => ?_)
                · refine v_iconst (v := 0) hX d_M_begin_62 (by decide) ?_
                  refine v_istore_n (lv' := [some (.ref (ob 48)), some (.int k), some (.int n), some (.int 0), none]) hX d_M_begin_63 rfl (Nat.le_of_ble_eq_true rfl) rfl ?_
                  exact j64 0 C O val hM ⟨hO, rfl⟩ frM.rf rfl (Or.inr ⟨rfl, fun z => absurd c49 (Int32.not_lt.mpr (z.2.2.2.2 c45).1)⟩)
                · refine v_iload_n hX d_M_begin_52 rfl rfl ?_
                  refine v_ldc (v := 999999999) hX ct_M_136 d_M_begin_53 ?_
                  refine v_icmp_gt hX d_M_begin_55 (tgt := 62) (by decide) (fun c55 => ?_) (fun c55 => ?_)
                  · refine v_iconst (v := 0) hX d_M_begin_62 (by decide) ?_
                    refine v_istore_n (lv' := [some (.ref (ob 48)), some (.int k), some (.int n), some (.int 0), none]) hX d_M_begin_63 rfl (Nat.le_of_ble_eq_true rfl) rfl ?_
                    exact j64 0 C O val hM ⟨hO, rfl⟩ frM.rf rfl (Or.inr ⟨rfl, fun z => absurd c55 (Int32.not_lt.mpr (z.2.2.2.2 c45).2)⟩)
                  · refine v_iconst (v := 1) hX d_M_begin_58 (by decide) ?_
                    refine v_goto hX d_M_begin_59 (tgt := 63) (by decide) ?_
                    refine v_istore_n (lv' := [some (.ref (ob 48)), some (.int k), some (.int n), some (.int 1), none]) hX d_M_begin_63 rfl (Nat.le_of_ble_eq_true rfl) rfl ?_
                    exact j64 1 C O val hM ⟨hO, rfl⟩ frM.rf rfl (Or.inl ⟨rfl, Int32.not_lt.mp c1, Int32.not_lt.mp c7, (mh_01 _ _).resolve_left c23, (fun _ => ⟨Int32.not_lt.mp c33, Int32.not_lt.mp c39⟩), (fun _ => ⟨Int32.not_lt.mp c49, Int32.not_lt.mp c55⟩)⟩)
