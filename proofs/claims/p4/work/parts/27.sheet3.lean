set_option maxHeartbeats 4000000 in
set_option maxRecDepth 100000 in
theorem c_T_pageFrom {l : Launch} {D : va_G} {A : Nat → Prop} {cI cB cZ cJ cN : ClassId} {ob : Nat → Nat} {td : Nat} {rs : RS} {sh : Nat → Int32 × Int32 × Int32} {dom : Nat → Prop} {loc : Nat → Nat} {val : Nat → va_E} (hI : LayI cI ob td rs sh dom loc val) {t : Nat} (ht : t = 5 ∨ t = 30) (x : Int32) : kM l y_T_pageFrom (Cond.code y_T_pageFrom b_T_pageFrom 3 (some FieldType.int) :: TT) (rmP 2 (Phi rs)) D CL (TY cI cB cZ cJ cN) A [.ref (ob t), .int x] dom loc val (fun rv d lo va kc ns => (∃ v, rv = some (.int v)) ∧ dom = d ∧ loc = lo ∧ val = va ∧ kc = 0 ∧ ns = 0) := by
  refine kM_of (lv0 := [some (.ref (ob t)), some (.int x), none]) (own := "ProsePages$Sheet") (by decide) rfl (List.forall_mem_cons.mpr ⟨rfl, List.forall_mem_cons.mpr ⟨rfl, fun _ h => nomatch h⟩⟩) (Nat.le_of_ble_eq_true rfl) rfl (Nat.le_of_ble_eq_true rfl) (fun X hl hX hE hin0 => ?_)
  have hP : pay rs rs 0 0 := pay.rf
  have hx : Phi rs ≤ 2663816 := hI.1.phi
  refine v_iload_n hX d_T_pageFrom_0 rfl rfl ?_
  refine v_istore_n (lv' := [some (.ref (ob t)), some (.int x), some (.int x)]) hX d_T_pageFrom_1 rfl (Nat.le_of_ble_eq_true rfl) rfl ?_
  have loop : ∀ (m9 : Nat) (k : Int32), ((nI (rs (t + 3)).1).toInt - k.toInt).toNat < m9 → V X D CL A dom loc val (0) (0) 2 [some (.ref (ob t)), some (.int x), some (.int k)] [] := by
    intro m9
    induction m9 with
    | zero => intro k hk; exact absurd hk (Nat.not_lt_zero _)
    | succ m9 ih =>
      intro k hk
      refine v_iload_n hX d_T_pageFrom_2 rfl rfl ?_
      refine v_aload_n hX d_T_pageFrom_3 rfl rfl ?_
      refine c_V hX t (rest := [.int k]) hl (c_T_lineCount hI ht) ml_T_69 im_T_lineCount se_T_lineCount in_T cd_T_lineCount rfl q_T_lineCount ⟨(Nat.le_of_ble_eq_true rfl), (Nat.le_of_ble_eq_true rfl)⟩ (hI.sheet ht).1 (hI.sheet ht).2.1 (hI.sheet ht).2.2 rfl rfl rfl rfl (Nat.le_of_ble_eq_true rfl) d_T_pageFrom_4 ⟨by have a := hP.2; have b := hx; show _ + (120 + (2663816 - Phi rs) / 16) ≤ 120 + (2663816 - Phi rs) / 16; omega, by have a := hP.1; have b := hx; show _ + (700000 + (2663816 - Phi rs)) ≤ 700000 + (2663816 - Phi rs); omega⟩ (fun rv d2 lo2 va2 kc ns hp => ?_)
      obtain ⟨rfl, rfl, rfl, rfl, rfl, rfl⟩ := hp
      show V X D CL A _ _ _ _ _ _ _ (.int (nI (rs (t + 3)).1) :: [.int k])
      refine v_icmp_ge hX d_T_pageFrom_7 (tgt := 48) (by decide) (fun c7 => ?_) (fun c7 => ?_)
      · refine v_aload_n hX d_T_pageFrom_48 rfl rfl ?_
        refine c_V hX t (rest := []) hl (c_T_pageCount hI ht) ml_T_76 im_T_pageCount se_T_pageCount in_T cd_T_pageCount rfl q_T_pageCount ⟨(Nat.le_of_ble_eq_true rfl), (Nat.le_of_ble_eq_true rfl)⟩ (hI.sheet ht).1 (hI.sheet ht).2.1 (hI.sheet ht).2.2 rfl rfl rfl rfl (Nat.le_of_ble_eq_true rfl) d_T_pageFrom_49 ⟨by have a := hP.2; have b := hx; show _ + (120 + (2663816 - Phi rs) / 16) ≤ 120 + (2663816 - Phi rs) / 16; omega, by have a := hP.1; have b := hx; show _ + (700000 + (2663816 - Phi rs)) ≤ 700000 + (2663816 - Phi rs); omega⟩ (fun rv d2 lo2 va2 kc ns hp => ?_)
        obtain ⟨rfl, rfl, rfl, rfl, rfl, rfl⟩ := hp
        show V X D CL A _ _ _ _ _ _ _ (.int (nI (rs (t + 13)).1) :: [])
        refine v_iconst (v := 1) hX d_T_pageFrom_52 (by decide) ?_
        refine v_isub hX d_T_pageFrom_53 ?_
        exact v_iret hX hE d_T_pageFrom_54 (by have a := hP.2; have b := hx; show _ ≤ 120 + (2663816 - Phi rs) / 16; omega) (by have a := hP.1; have b := hx; show _ ≤ 700000 + (2663816 - Phi rs); omega) ⟨⟨_, rfl⟩, rfl, rfl, rfl, rfl, rfl⟩
      · refine v_aload_n hX d_T_pageFrom_10 rfl rfl ?_
        refine v_get hX t (v := .ref (ob (t + 11))) inT3 (hI.sheet ht).1 (hI.sheet ht).2.1 (hI.sheet ht).2.2 rfl 5 (by decide) fl_T_30 rfl rfl d_T_pageFrom_11 ?_
        refine v_iload_n hX d_T_pageFrom_14 rfl rfl ?_
        refine c_V hX (t + 11) (rest := []) hl (L_get hI (t + 11) (shRK ht 5 (by decide)) k) ml_T_62 im_R_get se_R_get in_R cd_R_get rfl q_R_get ⟨(Nat.le_of_ble_eq_true rfl), (Nat.le_of_ble_eq_true rfl)⟩ (hI.1.1 (t + 11) (shRK ht 5 (by decide))).1 (hI.1.1 (t + 11) (shRK ht 5 (by decide))).2.2.1 (hI.1.1 (t + 11) (shRK ht 5 (by decide))).2.2.2.1.v rfl rfl rfl rfl (Nat.le_of_ble_eq_true rfl) d_T_pageFrom_15 ⟨by have a := hP.2; have b := hx; show _ + 100 ≤ 120 + (2663816 - Phi rs) / 16; omega, by have a := hP.1; have b := hx; show _ + 200000 ≤ 700000 + (2663816 - Phi rs); omega⟩ (fun rv d2 lo2 va2 kc ns hp => ?_)
        obtain ⟨⟨v1, rfl⟩, rfl, rfl, rfl, rfl, rfl⟩ := hp
        show V X D CL A _ _ _ _ _ _ _ (.int v1 :: [])
        refine v_if_ne hX d_T_pageFrom_18 (tgt := 42) (by decide) (fun c18 => ?_) (fun c18 => ?_)
        · refine v_iinc (y := (k + 1)) (lv' := [some (.ref (ob t)), some (.int x), some (.int (k + 1))]) hX d_T_pageFrom_42 rfl (by rfl) rfl ?_
          refine v_goto hX d_T_pageFrom_45 (tgt := 2) (by decide) ?_
          exact ih _ (iter_lt (Int32.not_le.mp c7) hk)
        · refine v_aload_n hX d_T_pageFrom_21 rfl rfl ?_
          refine v_get hX t (v := .ref (ob (t + 7))) inT3 (hI.sheet ht).1 (hI.sheet ht).2.1 (hI.sheet ht).2.2 rfl 3 (by decide) fl_T_24 rfl rfl d_T_pageFrom_22 ?_
          refine v_iload_n hX d_T_pageFrom_25 rfl rfl ?_
          refine c_V hX (t + 7) (rest := []) hl (L_get hI (t + 7) (shRK ht 3 (by decide)) k) ml_T_62 im_R_get se_R_get in_R cd_R_get rfl q_R_get ⟨(Nat.le_of_ble_eq_true rfl), (Nat.le_of_ble_eq_true rfl)⟩ (hI.1.1 (t + 7) (shRK ht 3 (by decide))).1 (hI.1.1 (t + 7) (shRK ht 3 (by decide))).2.2.1 (hI.1.1 (t + 7) (shRK ht 3 (by decide))).2.2.2.1.v rfl rfl rfl rfl (Nat.le_of_ble_eq_true rfl) d_T_pageFrom_26 ⟨by have a := hP.2; have b := hx; show _ + 100 ≤ 120 + (2663816 - Phi rs) / 16; omega, by have a := hP.1; have b := hx; show _ + 200000 ≤ 700000 + (2663816 - Phi rs); omega⟩ (fun rv d2 lo2 va2 kc ns hp => ?_)
          obtain ⟨⟨v2, rfl⟩, rfl, rfl, rfl, rfl, rfl⟩ := hp
          show V X D CL A _ _ _ _ _ _ _ (.int v2 :: [])
          refine v_iconst (v := (-1)) hX d_T_pageFrom_29 (by decide) ?_
          refine v_icmp_eq hX d_T_pageFrom_30 (tgt := 42) (by decide) (fun c30 => ?_) (fun c30 => ?_)
          · refine v_iinc (y := (k + 1)) (lv' := [some (.ref (ob t)), some (.int x), some (.int (k + 1))]) hX d_T_pageFrom_42 rfl (by rfl) rfl ?_
            refine v_goto hX d_T_pageFrom_45 (tgt := 2) (by decide) ?_
            exact ih _ (iter_lt (Int32.not_le.mp c7) hk)
          · refine v_aload_n hX d_T_pageFrom_33 rfl rfl ?_
            refine v_get hX t (v := .ref (ob (t + 7))) inT3 (hI.sheet ht).1 (hI.sheet ht).2.1 (hI.sheet ht).2.2 rfl 3 (by decide) fl_T_24 rfl rfl d_T_pageFrom_34 ?_
            refine v_iload_n hX d_T_pageFrom_37 rfl rfl ?_
            refine c_V hX (t + 7) (rest := []) hl (L_get hI (t + 7) (shRK ht 3 (by decide)) k) ml_T_62 im_R_get se_R_get in_R cd_R_get rfl q_R_get ⟨(Nat.le_of_ble_eq_true rfl), (Nat.le_of_ble_eq_true rfl)⟩ (hI.1.1 (t + 7) (shRK ht 3 (by decide))).1 (hI.1.1 (t + 7) (shRK ht 3 (by decide))).2.2.1 (hI.1.1 (t + 7) (shRK ht 3 (by decide))).2.2.2.1.v rfl rfl rfl rfl (Nat.le_of_ble_eq_true rfl) d_T_pageFrom_38 ⟨by have a := hP.2; have b := hx; show _ + 100 ≤ 120 + (2663816 - Phi rs) / 16; omega, by have a := hP.1; have b := hx; show _ + 200000 ≤ 700000 + (2663816 - Phi rs); omega⟩ (fun rv d2 lo2 va2 kc ns hp => ?_)
            obtain ⟨⟨v3, rfl⟩, rfl, rfl, rfl, rfl, rfl⟩ := hp
            show V X D CL A _ _ _ _ _ _ _ (.int v3 :: [])
            exact v_iret hX hE d_T_pageFrom_41 (by have a := hP.2; have b := hx; show _ ≤ 120 + (2663816 - Phi rs) / 16; omega) (by have a := hP.1; have b := hx; show _ ≤ 700000 + (2663816 - Phi rs); omega) ⟨⟨_, rfl⟩, rfl, rfl, rfl, rfl, rfl⟩
  exact loop _ _ (Nat.lt_succ_self _)
set_option maxHeartbeats 4000000 in
set_option maxRecDepth 100000 in
theorem c_T_ended {l : Launch} {D : va_G} {A : Nat → Prop} {cI cB cZ cJ cN : ClassId} {ob : Nat → Nat} {td : Nat} {rs : RS} {sh : Nat → Int32 × Int32 × Int32} {dom : Nat → Prop} {loc : Nat → Nat} {val : Nat → va_E} (hI : LayI cI ob td rs sh dom loc val) {t : Nat} (ht : t = 5 ∨ t = 30) (x y : Int32) : kM l y_T_isPageEndedBy (Cond.code y_T_isPageEndedBy b_T_isPageEndedBy 6 (some FieldType.boolean) :: TT) (rmP 2 (Phi rs)) D CL (TY cI cB cZ cJ cN) A [.ref (ob t), .int x, .int y] dom loc val (fun rv d lo va kc ns => (∃ v, rv = some (.int v)) ∧ dom = d ∧ loc = lo ∧ val = va ∧ kc = 0 ∧ ns = 0) := by
  refine kM_of (lv0 := [some (.ref (ob t)), some (.int x), some (.int y), none, none, none]) (own := "ProsePages$Sheet") (by decide) rfl (List.forall_mem_cons.mpr ⟨rfl, List.forall_mem_cons.mpr ⟨rfl, List.forall_mem_cons.mpr ⟨rfl, fun _ h => nomatch h⟩⟩⟩) (Nat.le_of_ble_eq_true rfl) rfl (Nat.le_of_ble_eq_true rfl) (fun X hl hX hE hin0 => ?_)
  have hP : pay rs rs 0 0 := pay.rf
  have hx : Phi rs ≤ 2663816 := hI.1.phi
  refine v_aload_n hX d_T_isPageEndedBy_0 rfl rfl ?_
  refine v_get hX t (v := .ref (ob (t + 9))) inT3 (hI.sheet ht).1 (hI.sheet ht).2.1 (hI.sheet ht).2.2 rfl 4 (by decide) fl_T_27 rfl rfl d_T_isPageEndedBy_1 ?_
  refine v_iload_n hX d_T_isPageEndedBy_4 rfl rfl ?_
  refine c_V hX (t + 9) (rest := []) hl (L_get hI (t + 9) (shRK ht 4 (by decide)) x) ml_T_62 im_R_get se_R_get in_R cd_R_get rfl q_R_get ⟨(Nat.le_of_ble_eq_true rfl), (Nat.le_of_ble_eq_true rfl)⟩ (hI.1.1 (t + 9) (shRK ht 4 (by decide))).1 (hI.1.1 (t + 9) (shRK ht 4 (by decide))).2.2.1 (hI.1.1 (t + 9) (shRK ht 4 (by decide))).2.2.2.1.v rfl rfl rfl rfl (Nat.le_of_ble_eq_true rfl) d_T_isPageEndedBy_5 ⟨by have a := hP.2; have b := hx; show _ + 100 ≤ 120 + (2663816 - Phi rs) / 16; omega, by have a := hP.1; have b := hx; show _ + 200000 ≤ 700000 + (2663816 - Phi rs); omega⟩ (fun rv d2 lo2 va2 kc ns hp => ?_)
  obtain ⟨⟨v1, rfl⟩, rfl, rfl, rfl, rfl, rfl⟩ := hp
  show V X D CL A _ _ _ _ _ _ _ (.int v1 :: [])
  refine v_istore_n (lv' := [some (.ref (ob t)), some (.int x), some (.int y), some (.int v1), none, none]) hX d_T_isPageEndedBy_8 rfl (Nat.le_of_ble_eq_true rfl) rfl ?_
  refine v_iload_n hX d_T_isPageEndedBy_9 rfl rfl ?_
  refine v_if_gt hX d_T_isPageEndedBy_10 (tgt := 15) (by decide) (fun c10 => ?_) (fun c10 => ?_)
  · refine v_iload_n hX d_T_isPageEndedBy_15 rfl rfl ?_
    refine v_iload_n hX d_T_isPageEndedBy_16 rfl rfl ?_
    refine v_iadd hX d_T_isPageEndedBy_17 ?_
    refine v_istore (lv' := [some (.ref (ob t)), some (.int x), some (.int y), some (.int v1), some (.int (x + v1)), none]) hX d_T_isPageEndedBy_18 (Nat.le_of_ble_eq_true rfl) rfl ?_
    have loop : ∀ (m9 : Nat) (k : Int32), ((nI (rs (t + 3)).1).toInt - k.toInt).toNat < m9 → V X D CL A dom loc val (0) (0) 20 [some (.ref (ob t)), some (.int x), some (.int y), some (.int v1), some (.int k), none] [] := by
      intro m9
      induction m9 with
      | zero => intro k hk; exact absurd hk (Nat.not_lt_zero _)
      | succ m9 ih =>
        intro k hk
        refine v_iload hX d_T_isPageEndedBy_20 rfl ?_
        refine v_aload_n hX d_T_isPageEndedBy_22 rfl rfl ?_
        refine c_V hX t (rest := [.int k]) hl (c_T_lineCount hI ht) ml_T_69 im_T_lineCount se_T_lineCount in_T cd_T_lineCount rfl q_T_lineCount ⟨(Nat.le_of_ble_eq_true rfl), (Nat.le_of_ble_eq_true rfl)⟩ (hI.sheet ht).1 (hI.sheet ht).2.1 (hI.sheet ht).2.2 rfl rfl rfl rfl (Nat.le_of_ble_eq_true rfl) d_T_isPageEndedBy_23 ⟨by have a := hP.2; have b := hx; show _ + (120 + (2663816 - Phi rs) / 16) ≤ 120 + (2663816 - Phi rs) / 16; omega, by have a := hP.1; have b := hx; show _ + (700000 + (2663816 - Phi rs)) ≤ 700000 + (2663816 - Phi rs); omega⟩ (fun rv d2 lo2 va2 kc ns hp => ?_)
        obtain ⟨rfl, rfl, rfl, rfl, rfl, rfl⟩ := hp
        show V X D CL A _ _ _ _ _ _ _ (.int (nI (rs (t + 3)).1) :: [.int k])
        refine v_icmp_ge hX d_T_isPageEndedBy_26 (tgt := 47) (by decide) (fun c26 => ?_) (fun c26 => ?_)
        · refine v_iload hX d_T_isPageEndedBy_47 rfl ?_
          refine v_iconst (v := 1) hX d_T_isPageEndedBy_49 (by decide) ?_
          refine v_iadd hX d_T_isPageEndedBy_50 ?_
          refine v_aload_n hX d_T_isPageEndedBy_51 rfl rfl ?_
          refine c_V hX t (rest := [.int (k + 1)]) hl (c_T_lineCount hI ht) ml_T_69 im_T_lineCount se_T_lineCount in_T cd_T_lineCount rfl q_T_lineCount ⟨(Nat.le_of_ble_eq_true rfl), (Nat.le_of_ble_eq_true rfl)⟩ (hI.sheet ht).1 (hI.sheet ht).2.1 (hI.sheet ht).2.2 rfl rfl rfl rfl (Nat.le_of_ble_eq_true rfl) d_T_isPageEndedBy_52 ⟨by have a := hP.2; have b := hx; show _ + (120 + (2663816 - Phi rs) / 16) ≤ 120 + (2663816 - Phi rs) / 16; omega, by have a := hP.1; have b := hx; show _ + (700000 + (2663816 - Phi rs)) ≤ 700000 + (2663816 - Phi rs); omega⟩ (fun rv d2 lo2 va2 kc ns hp => ?_)
          obtain ⟨rfl, rfl, rfl, rfl, rfl, rfl⟩ := hp
          show V X D CL A _ _ _ _ _ _ _ (.int (nI (rs (t + 3)).1) :: [.int (k + 1)])
          refine v_mmin hX ml_T_83 sm_H_min in_H k_mincode ⟨(Nat.le_of_ble_eq_true rfl), (Nat.le_of_ble_eq_true rfl)⟩ rfl rfl (Nat.le_of_ble_eq_true rfl) (by have a := hP.2; have b := hx; show _ ≤ 120 + (2663816 - Phi rs) / 16; omega) (by have a := hP.1; have b := hx; show _ ≤ 700000 + (2663816 - Phi rs); omega) d_T_isPageEndedBy_55 ?_
          refine v_iload_n hX d_T_isPageEndedBy_58 rfl rfl ?_
          refine v_isub hX d_T_isPageEndedBy_59 ?_
          refine v_istore (lv' := [some (.ref (ob t)), some (.int x), some (.int y), some (.int v1), some (.int k), some (.int ((if (nI (rs (t + 3)).1) < (k + 1) then (nI (rs (t + 3)).1) else (k + 1)) - x))]) hX d_T_isPageEndedBy_60 (Nat.le_of_ble_eq_true rfl) rfl ?_
          refine v_iload hX d_T_isPageEndedBy_62 rfl ?_
          refine v_aload_n hX d_T_isPageEndedBy_64 rfl rfl ?_
          refine v_get hX t (v := .int (sh t).1) inT3 (hI.sheet ht).1 (hI.sheet ht).2.1 (hI.sheet ht).2.2 rfl 8 (by decide) fl_T_47 rfl rfl d_T_isPageEndedBy_65 ?_
          refine v_icmp_gt hX d_T_isPageEndedBy_68 (tgt := 86) (by decide) (fun c68 => ?_) (fun c68 => ?_)
          · refine v_iconst (v := 0) hX d_T_isPageEndedBy_86 (by decide) ?_
            exact v_zret hX hE (by first | decide | rfl | exact oneOf_nar | exact blk_nar | exact inl_nar | assumption) d_T_isPageEndedBy_87 (by have a := hP.2; have b := hx; show _ ≤ 120 + (2663816 - Phi rs) / 16; omega) (by have a := hP.1; have b := hx; show _ ≤ 700000 + (2663816 - Phi rs); omega) ⟨⟨_, rfl⟩, rfl, rfl, rfl, rfl, rfl⟩
          · refine v_iload hX d_T_isPageEndedBy_71 rfl ?_
            refine v_aload_n hX d_T_isPageEndedBy_73 rfl rfl ?_
            refine v_get hX t (v := .int (sh t).1) inT3 (hI.sheet ht).1 (hI.sheet ht).2.1 (hI.sheet ht).2.2 rfl 8 (by decide) fl_T_47 rfl rfl d_T_isPageEndedBy_74 ?_
            refine v_iload_n hX d_T_isPageEndedBy_77 rfl rfl ?_
            refine v_isub hX d_T_isPageEndedBy_78 ?_
            refine v_icmp_le hX d_T_isPageEndedBy_79 (tgt := 86) (by decide) (fun c79 => ?_) (fun c79 => ?_)
            · refine v_iconst (v := 0) hX d_T_isPageEndedBy_86 (by decide) ?_
              exact v_zret hX hE (by first | decide | rfl | exact oneOf_nar | exact blk_nar | exact inl_nar | assumption) d_T_isPageEndedBy_87 (by have a := hP.2; have b := hx; show _ ≤ 120 + (2663816 - Phi rs) / 16; omega) (by have a := hP.1; have b := hx; show _ ≤ 700000 + (2663816 - Phi rs); omega) ⟨⟨_, rfl⟩, rfl, rfl, rfl, rfl, rfl⟩
            · refine v_iconst (v := 1) hX d_T_isPageEndedBy_82 (by decide) ?_
              refine v_goto hX d_T_isPageEndedBy_83 (tgt := 87) (by decide) ?_
              exact v_zret hX hE (by first | decide | rfl | exact oneOf_nar | exact blk_nar | exact inl_nar | assumption) d_T_isPageEndedBy_87 (by have a := hP.2; have b := hx; show _ ≤ 120 + (2663816 - Phi rs) / 16; omega) (by have a := hP.1; have b := hx; show _ ≤ 700000 + (2663816 - Phi rs); omega) ⟨⟨_, rfl⟩, rfl, rfl, rfl, rfl, rfl⟩
        · refine v_aload_n hX d_T_isPageEndedBy_29 rfl rfl ?_
          refine v_get hX t (v := .ref (ob (t + 5))) inT3 (hI.sheet ht).1 (hI.sheet ht).2.1 (hI.sheet ht).2.2 rfl 2 (by decide) fl_T_21 rfl rfl d_T_isPageEndedBy_30 ?_
          refine v_iload hX d_T_isPageEndedBy_33 rfl ?_
          refine c_V hX (t + 5) (rest := []) hl (L_get hI (t + 5) (shRK ht 2 (by decide)) k) ml_T_62 im_R_get se_R_get in_R cd_R_get rfl q_R_get ⟨(Nat.le_of_ble_eq_true rfl), (Nat.le_of_ble_eq_true rfl)⟩ (hI.1.1 (t + 5) (shRK ht 2 (by decide))).1 (hI.1.1 (t + 5) (shRK ht 2 (by decide))).2.2.1 (hI.1.1 (t + 5) (shRK ht 2 (by decide))).2.2.2.1.v rfl rfl rfl rfl (Nat.le_of_ble_eq_true rfl) d_T_isPageEndedBy_35 ⟨by have a := hP.2; have b := hx; show _ + 100 ≤ 120 + (2663816 - Phi rs) / 16; omega, by have a := hP.1; have b := hx; show _ + 200000 ≤ 700000 + (2663816 - Phi rs); omega⟩ (fun rv d2 lo2 va2 kc ns hp => ?_)
          obtain ⟨⟨v2, rfl⟩, rfl, rfl, rfl, rfl, rfl⟩ := hp
          show V X D CL A _ _ _ _ _ _ _ (.int v2 :: [])
          refine v_if_ne hX d_T_isPageEndedBy_38 (tgt := 47) (by decide) (fun c38 => ?_) (fun c38 => ?_)
          · refine v_iload hX d_T_isPageEndedBy_47 rfl ?_
            refine v_iconst (v := 1) hX d_T_isPageEndedBy_49 (by decide) ?_
            refine v_iadd hX d_T_isPageEndedBy_50 ?_
            refine v_aload_n hX d_T_isPageEndedBy_51 rfl rfl ?_
            refine c_V hX t (rest := [.int (k + 1)]) hl (c_T_lineCount hI ht) ml_T_69 im_T_lineCount se_T_lineCount in_T cd_T_lineCount rfl q_T_lineCount ⟨(Nat.le_of_ble_eq_true rfl), (Nat.le_of_ble_eq_true rfl)⟩ (hI.sheet ht).1 (hI.sheet ht).2.1 (hI.sheet ht).2.2 rfl rfl rfl rfl (Nat.le_of_ble_eq_true rfl) d_T_isPageEndedBy_52 ⟨by have a := hP.2; have b := hx; show _ + (120 + (2663816 - Phi rs) / 16) ≤ 120 + (2663816 - Phi rs) / 16; omega, by have a := hP.1; have b := hx; show _ + (700000 + (2663816 - Phi rs)) ≤ 700000 + (2663816 - Phi rs); omega⟩ (fun rv d2 lo2 va2 kc ns hp => ?_)
            obtain ⟨rfl, rfl, rfl, rfl, rfl, rfl⟩ := hp
            show V X D CL A _ _ _ _ _ _ _ (.int (nI (rs (t + 3)).1) :: [.int (k + 1)])
            refine v_mmin hX ml_T_83 sm_H_min in_H k_mincode ⟨(Nat.le_of_ble_eq_true rfl), (Nat.le_of_ble_eq_true rfl)⟩ rfl rfl (Nat.le_of_ble_eq_true rfl) (by have a := hP.2; have b := hx; show _ ≤ 120 + (2663816 - Phi rs) / 16; omega) (by have a := hP.1; have b := hx; show _ ≤ 700000 + (2663816 - Phi rs); omega) d_T_isPageEndedBy_55 ?_
            refine v_iload_n hX d_T_isPageEndedBy_58 rfl rfl ?_
            refine v_isub hX d_T_isPageEndedBy_59 ?_
            refine v_istore (lv' := [some (.ref (ob t)), some (.int x), some (.int y), some (.int v1), some (.int k), some (.int ((if (nI (rs (t + 3)).1) < (k + 1) then (nI (rs (t + 3)).1) else (k + 1)) - x))]) hX d_T_isPageEndedBy_60 (Nat.le_of_ble_eq_true rfl) rfl ?_
            refine v_iload hX d_T_isPageEndedBy_62 rfl ?_
            refine v_aload_n hX d_T_isPageEndedBy_64 rfl rfl ?_
            refine v_get hX t (v := .int (sh t).1) inT3 (hI.sheet ht).1 (hI.sheet ht).2.1 (hI.sheet ht).2.2 rfl 8 (by decide) fl_T_47 rfl rfl d_T_isPageEndedBy_65 ?_
            refine v_icmp_gt hX d_T_isPageEndedBy_68 (tgt := 86) (by decide) (fun c68 => ?_) (fun c68 => ?_)
            · refine v_iconst (v := 0) hX d_T_isPageEndedBy_86 (by decide) ?_
              exact v_zret hX hE (by first | decide | rfl | exact oneOf_nar | exact blk_nar | exact inl_nar | assumption) d_T_isPageEndedBy_87 (by have a := hP.2; have b := hx; show _ ≤ 120 + (2663816 - Phi rs) / 16; omega) (by have a := hP.1; have b := hx; show _ ≤ 700000 + (2663816 - Phi rs); omega) ⟨⟨_, rfl⟩, rfl, rfl, rfl, rfl, rfl⟩
            · refine v_iload hX d_T_isPageEndedBy_71 rfl ?_
              refine v_aload_n hX d_T_isPageEndedBy_73 rfl rfl ?_
              refine v_get hX t (v := .int (sh t).1) inT3 (hI.sheet ht).1 (hI.sheet ht).2.1 (hI.sheet ht).2.2 rfl 8 (by decide) fl_T_47 rfl rfl d_T_isPageEndedBy_74 ?_
              refine v_iload_n hX d_T_isPageEndedBy_77 rfl rfl ?_
              refine v_isub hX d_T_isPageEndedBy_78 ?_
              refine v_icmp_le hX d_T_isPageEndedBy_79 (tgt := 86) (by decide) (fun c79 => ?_) (fun c79 => ?_)
              · refine v_iconst (v := 0) hX d_T_isPageEndedBy_86 (by decide) ?_
                exact v_zret hX hE (by first | decide | rfl | exact oneOf_nar | exact blk_nar | exact inl_nar | assumption) d_T_isPageEndedBy_87 (by have a := hP.2; have b := hx; show _ ≤ 120 + (2663816 - Phi rs) / 16; omega) (by have a := hP.1; have b := hx; show _ ≤ 700000 + (2663816 - Phi rs); omega) ⟨⟨_, rfl⟩, rfl, rfl, rfl, rfl, rfl⟩
              · refine v_iconst (v := 1) hX d_T_isPageEndedBy_82 (by decide) ?_
                refine v_goto hX d_T_isPageEndedBy_83 (tgt := 87) (by decide) ?_
                exact v_zret hX hE (by first | decide | rfl | exact oneOf_nar | exact blk_nar | exact inl_nar | assumption) d_T_isPageEndedBy_87 (by have a := hP.2; have b := hx; show _ ≤ 120 + (2663816 - Phi rs) / 16; omega) (by have a := hP.1; have b := hx; show _ ≤ 700000 + (2663816 - Phi rs); omega) ⟨⟨_, rfl⟩, rfl, rfl, rfl, rfl, rfl⟩
          · refine v_iinc (y := (k + 1)) (lv' := [some (.ref (ob t)), some (.int x), some (.int y), some (.int v1), some (.int (k + 1)), none]) hX d_T_isPageEndedBy_41 rfl (by rfl) rfl ?_
            refine v_goto hX d_T_isPageEndedBy_44 (tgt := 20) (by decide) ?_
            exact ih _ (iter_lt (Int32.not_le.mp c26) hk)
    exact loop _ _ (Nat.lt_succ_self _)
  · refine v_iconst (v := 0) hX d_T_isPageEndedBy_13 (by decide) ?_
    exact v_zret hX hE (by first | decide | rfl | exact oneOf_nar | exact blk_nar | exact inl_nar | assumption) d_T_isPageEndedBy_14 (by have a := hP.2; have b := hx; show _ ≤ 120 + (2663816 - Phi rs) / 16; omega) (by have a := hP.1; have b := hx; show _ ≤ 700000 + (2663816 - Phi rs); omega) ⟨⟨_, rfl⟩, rfl, rfl, rfl, rfl, rfl⟩
