set_option maxHeartbeats 4000000 in
set_option maxRecDepth 100000 in
theorem c_T_lineCount {l : Launch} {D : va_G} {A : Nat → Prop} {cI cB cZ cJ cN : ClassId} {ob : Nat → Nat} {td : Nat} {rs : RS} {sh : Nat → Int32 × Int32 × Int32} {dom : Nat → Prop} {loc : Nat → Nat} {val : Nat → va_E} (hI : LayI cI ob td rs sh dom loc val) {t : Nat} (ht : t = 5 ∨ t = 30) : kM l y_T_lineCount (Cond.code y_T_lineCount b_T_lineCount 1 (some FieldType.int) :: TT) (rmP 1 (Phi rs)) D CL (TY cI cB cZ cJ cN) A [.ref (ob t)] dom loc val (fun rv d lo va kc ns => rv = some (.int (nI (rs (t + 3)).1)) ∧ dom = d ∧ loc = lo ∧ val = va ∧ kc = 0 ∧ ns = 0) := by
  refine kM_of (lv0 := [some (.ref (ob t))]) (own := "ProsePages$Sheet") (by decide) rfl (List.forall_mem_cons.mpr ⟨rfl, fun _ h => nomatch h⟩) (Nat.le_of_ble_eq_true rfl) rfl (Nat.le_of_ble_eq_true rfl) (fun X hl hX hE hin0 => ?_)
  have hP : pay rs rs 0 0 := pay.rf
  have hx : Phi rs ≤ 2663816 := hI.1.phi
  refine v_aload_n hX d_T_lineCount_0 rfl rfl ?_
  refine v_get hX t (v := .ref (ob (t + 3))) inT3 (hI.sheet ht).1 (hI.sheet ht).2.1 (hI.sheet ht).2.2 rfl 1 (by decide) fl_T_18 rfl rfl d_T_lineCount_1 ?_
  refine c_V hX (t + 3) (rest := []) hl (L_size hI (t + 3) (shRK ht 1 (by decide))) ml_T_39 im_R_size se_R_size in_R cd_R_size rfl q_R_size ⟨(Nat.le_of_ble_eq_true rfl), (Nat.le_of_ble_eq_true rfl)⟩ (hI.1.1 (t + 3) (shRK ht 1 (by decide))).1 (hI.1.1 (t + 3) (shRK ht 1 (by decide))).2.2.1 (hI.1.1 (t + 3) (shRK ht 1 (by decide))).2.2.2.1.v rfl rfl rfl rfl (Nat.le_of_ble_eq_true rfl) d_T_lineCount_4 ⟨by have a := hP.2; have b := hx; show _ + 100 ≤ 120 + (2663816 - Phi rs) / 16; omega, by have a := hP.1; have b := hx; show _ + 200000 ≤ 700000 + (2663816 - Phi rs); omega⟩ (fun rv d2 lo2 va2 kc ns hp => ?_)
  obtain ⟨rfl, rfl, rfl, rfl, rfl, rfl⟩ := hp
  show V X D CL A _ _ _ _ _ _ _ (.int (nI (rs (t + 3)).1) :: [])
  exact v_iret hX hE d_T_lineCount_7 (by have a := hP.2; have b := hx; show _ ≤ 120 + (2663816 - Phi rs) / 16; omega) (by have a := hP.1; have b := hx; show _ ≤ 700000 + (2663816 - Phi rs); omega) ⟨rfl, rfl, rfl, rfl, rfl, rfl⟩
set_option maxHeartbeats 4000000 in
set_option maxRecDepth 100000 in
theorem c_T_pageCount {l : Launch} {D : va_G} {A : Nat → Prop} {cI cB cZ cJ cN : ClassId} {ob : Nat → Nat} {td : Nat} {rs : RS} {sh : Nat → Int32 × Int32 × Int32} {dom : Nat → Prop} {loc : Nat → Nat} {val : Nat → va_E} (hI : LayI cI ob td rs sh dom loc val) {t : Nat} (ht : t = 5 ∨ t = 30) : kM l y_T_pageCount (Cond.code y_T_pageCount b_T_pageCount 1 (some FieldType.int) :: TT) (rmP 1 (Phi rs)) D CL (TY cI cB cZ cJ cN) A [.ref (ob t)] dom loc val (fun rv d lo va kc ns => rv = some (.int (nI (rs (t + 13)).1)) ∧ dom = d ∧ loc = lo ∧ val = va ∧ kc = 0 ∧ ns = 0) := by
  refine kM_of (lv0 := [some (.ref (ob t))]) (own := "ProsePages$Sheet") (by decide) rfl (List.forall_mem_cons.mpr ⟨rfl, fun _ h => nomatch h⟩) (Nat.le_of_ble_eq_true rfl) rfl (Nat.le_of_ble_eq_true rfl) (fun X hl hX hE hin0 => ?_)
  have hP : pay rs rs 0 0 := pay.rf
  have hx : Phi rs ≤ 2663816 := hI.1.phi
  refine v_aload_n hX d_T_pageCount_0 rfl rfl ?_
  refine v_get hX t (v := .ref (ob (t + 13))) inT3 (hI.sheet ht).1 (hI.sheet ht).2.1 (hI.sheet ht).2.2 rfl 6 (by decide) fl_T_33 rfl rfl d_T_pageCount_1 ?_
  refine c_V hX (t + 13) (rest := []) hl (L_size hI (t + 13) (shRK ht 6 (by decide))) ml_T_39 im_R_size se_R_size in_R cd_R_size rfl q_R_size ⟨(Nat.le_of_ble_eq_true rfl), (Nat.le_of_ble_eq_true rfl)⟩ (hI.1.1 (t + 13) (shRK ht 6 (by decide))).1 (hI.1.1 (t + 13) (shRK ht 6 (by decide))).2.2.1 (hI.1.1 (t + 13) (shRK ht 6 (by decide))).2.2.2.1.v rfl rfl rfl rfl (Nat.le_of_ble_eq_true rfl) d_T_pageCount_4 ⟨by have a := hP.2; have b := hx; show _ + 100 ≤ 120 + (2663816 - Phi rs) / 16; omega, by have a := hP.1; have b := hx; show _ + 200000 ≤ 700000 + (2663816 - Phi rs); omega⟩ (fun rv d2 lo2 va2 kc ns hp => ?_)
  obtain ⟨rfl, rfl, rfl, rfl, rfl, rfl⟩ := hp
  show V X D CL A _ _ _ _ _ _ _ (.int (nI (rs (t + 13)).1) :: [])
  exact v_iret hX hE d_T_pageCount_7 (by have a := hP.2; have b := hx; show _ ≤ 120 + (2663816 - Phi rs) / 16; omega) (by have a := hP.1; have b := hx; show _ ≤ 700000 + (2663816 - Phi rs); omega) ⟨rfl, rfl, rfl, rfl, rfl, rfl⟩
set_option maxHeartbeats 4000000 in
set_option maxRecDepth 100000 in
theorem c_T_character {l : Launch} {D : va_G} {A : Nat → Prop} {cI cB cZ cJ cN : ClassId} {ob : Nat → Nat} {td : Nat} {rs : RS} {sh : Nat → Int32 × Int32 × Int32} {dom : Nat → Prop} {loc : Nat → Nat} {val : Nat → va_E} (hI : LayI cI ob td rs sh dom loc val) {t : Nat} (ht : t = 5 ∨ t = 30) (x0 x1 x2 : Int32) : kM l y_T_character (Cond.code y_T_character b_T_character 5 (some FieldType.int) :: TT) (rmP 2 (Phi rs)) D CL (TY cI cB cZ cJ cN) A [.ref (ob t), .int x0, .int x1, .int x2] dom loc val (fun rv d lo va kc ns => (∃ v, rv = some (.int v)) ∧ dom = d ∧ loc = lo ∧ val = va ∧ kc = 0 ∧ ns = 0) := by
  refine kM_of (lv0 := [some (.ref (ob t)), some (.int x0), some (.int x1), some (.int x2), none]) (own := "ProsePages$Sheet") (by decide) rfl (List.forall_mem_cons.mpr ⟨rfl, List.forall_mem_cons.mpr ⟨rfl, List.forall_mem_cons.mpr ⟨rfl, List.forall_mem_cons.mpr ⟨rfl, fun _ h => nomatch h⟩⟩⟩⟩) (Nat.le_of_ble_eq_true rfl) rfl (Nat.le_of_ble_eq_true rfl) (fun X hl hX hE hin0 => ?_)
  have hP : pay rs rs 0 0 := pay.rf
  have hx : Phi rs ≤ 2663816 := hI.1.phi
  refine v_iload_n hX d_T_character_0 rfl rfl ?_
  refine v_if_lt hX d_T_character_1 (tgt := 36) (by decide) (fun c1 => ?_) (fun c1 => ?_)
  · refine v_iconst (v := (-1)) hX d_T_character_36 (by decide) ?_
    exact v_iret hX hE d_T_character_37 (by have a := hP.2; have b := hx; show _ ≤ 120 + (2663816 - Phi rs) / 16; omega) (by have a := hP.1; have b := hx; show _ ≤ 700000 + (2663816 - Phi rs); omega) ⟨⟨_, rfl⟩, rfl, rfl, rfl, rfl, rfl⟩
  · refine v_iload_n hX d_T_character_4 rfl rfl ?_
    refine v_aload_n hX d_T_character_5 rfl rfl ?_
    refine c_V hX t (rest := [.int x0]) hl (c_T_pageCount hI ht) ml_T_76 im_T_pageCount se_T_pageCount in_T cd_T_pageCount rfl q_T_pageCount ⟨(Nat.le_of_ble_eq_true rfl), (Nat.le_of_ble_eq_true rfl)⟩ (hI.sheet ht).1 (hI.sheet ht).2.1 (hI.sheet ht).2.2 rfl rfl rfl rfl (Nat.le_of_ble_eq_true rfl) d_T_character_6 ⟨by have a := hP.2; have b := hx; show _ + (120 + (2663816 - Phi rs) / 16) ≤ 120 + (2663816 - Phi rs) / 16; omega, by have a := hP.1; have b := hx; show _ + (700000 + (2663816 - Phi rs)) ≤ 700000 + (2663816 - Phi rs); omega⟩ (fun rv d2 lo2 va2 kc ns hp => ?_)
    obtain ⟨rfl, rfl, rfl, rfl, rfl, rfl⟩ := hp
    show V X D CL A _ _ _ _ _ _ _ (.int (nI (rs (t + 13)).1) :: [.int x0])
    refine v_icmp_ge hX d_T_character_9 (tgt := 36) (by decide) (fun c9 => ?_) (fun c9 => ?_)
    · refine v_iconst (v := (-1)) hX d_T_character_36 (by decide) ?_
      exact v_iret hX hE d_T_character_37 (by have a := hP.2; have b := hx; show _ ≤ 120 + (2663816 - Phi rs) / 16; omega) (by have a := hP.1; have b := hx; show _ ≤ 700000 + (2663816 - Phi rs); omega) ⟨⟨_, rfl⟩, rfl, rfl, rfl, rfl, rfl⟩
    · refine v_iload_n hX d_T_character_12 rfl rfl ?_
      refine v_if_lt hX d_T_character_13 (tgt := 36) (by decide) (fun c13 => ?_) (fun c13 => ?_)
      · refine v_iconst (v := (-1)) hX d_T_character_36 (by decide) ?_
        exact v_iret hX hE d_T_character_37 (by have a := hP.2; have b := hx; show _ ≤ 120 + (2663816 - Phi rs) / 16; omega) (by have a := hP.1; have b := hx; show _ ≤ 700000 + (2663816 - Phi rs); omega) ⟨⟨_, rfl⟩, rfl, rfl, rfl, rfl, rfl⟩
      · refine v_iload_n hX d_T_character_16 rfl rfl ?_
        refine v_aload_n hX d_T_character_17 rfl rfl ?_
        refine v_get hX t (v := .int (sh t).1) inT3 (hI.sheet ht).1 (hI.sheet ht).2.1 (hI.sheet ht).2.2 rfl 8 (by decide) fl_T_47 rfl rfl d_T_character_18 ?_
        refine v_icmp_ge hX d_T_character_21 (tgt := 36) (by decide) (fun c21 => ?_) (fun c21 => ?_)
        · refine v_iconst (v := (-1)) hX d_T_character_36 (by decide) ?_
          exact v_iret hX hE d_T_character_37 (by have a := hP.2; have b := hx; show _ ≤ 120 + (2663816 - Phi rs) / 16; omega) (by have a := hP.1; have b := hx; show _ ≤ 700000 + (2663816 - Phi rs); omega) ⟨⟨_, rfl⟩, rfl, rfl, rfl, rfl, rfl⟩
        · refine v_iload_n hX d_T_character_24 rfl rfl ?_
          refine v_if_lt hX d_T_character_25 (tgt := 36) (by decide) (fun c25 => ?_) (fun c25 => ?_)
          · refine v_iconst (v := (-1)) hX d_T_character_36 (by decide) ?_
            exact v_iret hX hE d_T_character_37 (by have a := hP.2; have b := hx; show _ ≤ 120 + (2663816 - Phi rs) / 16; omega) (by have a := hP.1; have b := hx; show _ ≤ 700000 + (2663816 - Phi rs); omega) ⟨⟨_, rfl⟩, rfl, rfl, rfl, rfl, rfl⟩
          · refine v_iload_n hX d_T_character_28 rfl rfl ?_
            refine v_aload_n hX d_T_character_29 rfl rfl ?_
            refine v_get hX t (v := .int (sh t).2.1) inT3 (hI.sheet ht).1 (hI.sheet ht).2.1 (hI.sheet ht).2.2 rfl 9 (by decide) fl_T_51 rfl rfl d_T_character_30 ?_
            refine v_icmp_lt hX d_T_character_33 (tgt := 38) (by decide) (fun c33 => ?_) (fun c33 => ?_)
            · refine v_iload_n hX d_T_character_38 rfl rfl ?_
              refine v_aload_n hX d_T_character_39 rfl rfl ?_
              refine v_get hX t (v := .ref (ob (t + 15))) inT3 (hI.sheet ht).1 (hI.sheet ht).2.1 (hI.sheet ht).2.2 rfl 7 (by decide) fl_T_36 rfl rfl d_T_character_40 ?_
              refine v_iload_n hX d_T_character_43 rfl rfl ?_
              refine c_V hX (t + 15) (rest := [.int x1]) hl (L_get hI (t + 15) (shRK ht 7 (by decide)) x0) ml_T_62 im_R_get se_R_get in_R cd_R_get rfl q_R_get ⟨(Nat.le_of_ble_eq_true rfl), (Nat.le_of_ble_eq_true rfl)⟩ (hI.1.1 (t + 15) (shRK ht 7 (by decide))).1 (hI.1.1 (t + 15) (shRK ht 7 (by decide))).2.2.1 (hI.1.1 (t + 15) (shRK ht 7 (by decide))).2.2.2.1.v rfl rfl rfl rfl (Nat.le_of_ble_eq_true rfl) d_T_character_44 ⟨by have a := hP.2; have b := hx; show _ + 100 ≤ 120 + (2663816 - Phi rs) / 16; omega, by have a := hP.1; have b := hx; show _ + 200000 ≤ 700000 + (2663816 - Phi rs); omega⟩ (fun rv d2 lo2 va2 kc ns hp => ?_)
              obtain ⟨⟨v1, rfl⟩, rfl, rfl, rfl, rfl, rfl⟩ := hp
              show V X D CL A _ _ _ _ _ _ _ (.int v1 :: [.int x1])
              refine v_icmp_lt hX d_T_character_47 (tgt := 53) (by decide) (fun c47 => ?_) (fun c47 => ?_)
              · refine v_aload_n hX d_T_character_53 rfl rfl ?_
                refine v_get hX t (v := .ref (ob (t + 13))) inT3 (hI.sheet ht).1 (hI.sheet ht).2.1 (hI.sheet ht).2.2 rfl 6 (by decide) fl_T_33 rfl rfl d_T_character_54 ?_
                refine v_iload_n hX d_T_character_57 rfl rfl ?_
                refine c_V hX (t + 13) (rest := []) hl (L_get hI (t + 13) (shRK ht 6 (by decide)) x0) ml_T_62 im_R_get se_R_get in_R cd_R_get rfl q_R_get ⟨(Nat.le_of_ble_eq_true rfl), (Nat.le_of_ble_eq_true rfl)⟩ (hI.1.1 (t + 13) (shRK ht 6 (by decide))).1 (hI.1.1 (t + 13) (shRK ht 6 (by decide))).2.2.1 (hI.1.1 (t + 13) (shRK ht 6 (by decide))).2.2.2.1.v rfl rfl rfl rfl (Nat.le_of_ble_eq_true rfl) d_T_character_58 ⟨by have a := hP.2; have b := hx; show _ + 100 ≤ 120 + (2663816 - Phi rs) / 16; omega, by have a := hP.1; have b := hx; show _ + 200000 ≤ 700000 + (2663816 - Phi rs); omega⟩ (fun rv d2 lo2 va2 kc ns hp => ?_)
                obtain ⟨⟨v2, rfl⟩, rfl, rfl, rfl, rfl, rfl⟩ := hp
                show V X D CL A _ _ _ _ _ _ _ (.int v2 :: [])
                refine v_iload_n hX d_T_character_61 rfl rfl ?_
                refine v_iadd hX d_T_character_62 ?_
                refine v_istore (lv' := [some (.ref (ob t)), some (.int x0), some (.int x1), some (.int x2), some (.int (v2 + x1))]) hX d_T_character_63 (Nat.le_of_ble_eq_true rfl) rfl ?_
                refine v_iload_n hX d_T_character_65 rfl rfl ?_
                refine v_aload_n hX d_T_character_66 rfl rfl ?_
                refine v_get hX t (v := .ref (ob (t + 5))) inT3 (hI.sheet ht).1 (hI.sheet ht).2.1 (hI.sheet ht).2.2 rfl 2 (by decide) fl_T_21 rfl rfl d_T_character_67 ?_
                refine v_iload hX d_T_character_70 rfl ?_
                refine c_V hX (t + 5) (rest := [.int x2]) hl (L_get hI (t + 5) (shRK ht 2 (by decide)) (v2 + x1)) ml_T_62 im_R_get se_R_get in_R cd_R_get rfl q_R_get ⟨(Nat.le_of_ble_eq_true rfl), (Nat.le_of_ble_eq_true rfl)⟩ (hI.1.1 (t + 5) (shRK ht 2 (by decide))).1 (hI.1.1 (t + 5) (shRK ht 2 (by decide))).2.2.1 (hI.1.1 (t + 5) (shRK ht 2 (by decide))).2.2.2.1.v rfl rfl rfl rfl (Nat.le_of_ble_eq_true rfl) d_T_character_72 ⟨by have a := hP.2; have b := hx; show _ + 100 ≤ 120 + (2663816 - Phi rs) / 16; omega, by have a := hP.1; have b := hx; show _ + 200000 ≤ 700000 + (2663816 - Phi rs); omega⟩ (fun rv d2 lo2 va2 kc ns hp => ?_)
                obtain ⟨⟨v3, rfl⟩, rfl, rfl, rfl, rfl, rfl⟩ := hp
                show V X D CL A _ _ _ _ _ _ _ (.int v3 :: [.int x2])
                refine v_icmp_ge hX d_T_character_75 (tgt := 99) (by decide) (fun c75 => ?_) (fun c75 => ?_)
                · refine v_bipush (v := 32) hX d_T_character_99 (by decide) ?_
                  exact v_iret hX hE d_T_character_101 (by have a := hP.2; have b := hx; show _ ≤ 120 + (2663816 - Phi rs) / 16; omega) (by have a := hP.1; have b := hx; show _ ≤ 700000 + (2663816 - Phi rs); omega) ⟨⟨_, rfl⟩, rfl, rfl, rfl, rfl, rfl⟩
                · refine v_aload_n hX d_T_character_78 rfl rfl ?_
                  refine v_get hX t (v := .ref (ob (t + 1))) inT3 (hI.sheet ht).1 (hI.sheet ht).2.1 (hI.sheet ht).2.2 rfl 0 (by decide) fl_T_12 rfl rfl d_T_character_79 ?_
                  refine v_aload_n hX d_T_character_82 rfl rfl ?_
                  refine v_get hX t (v := .ref (ob (t + 3))) inT3 (hI.sheet ht).1 (hI.sheet ht).2.1 (hI.sheet ht).2.2 rfl 1 (by decide) fl_T_18 rfl rfl d_T_character_83 ?_
                  refine v_iload hX d_T_character_86 rfl ?_
                  refine c_V hX (t + 3) (rest := [.ref (ob (t + 1))]) hl (L_get hI (t + 3) (shRK ht 1 (by decide)) (v2 + x1)) ml_T_62 im_R_get se_R_get in_R cd_R_get rfl q_R_get ⟨(Nat.le_of_ble_eq_true rfl), (Nat.le_of_ble_eq_true rfl)⟩ (hI.1.1 (t + 3) (shRK ht 1 (by decide))).1 (hI.1.1 (t + 3) (shRK ht 1 (by decide))).2.2.1 (hI.1.1 (t + 3) (shRK ht 1 (by decide))).2.2.2.1.v rfl rfl rfl rfl (Nat.le_of_ble_eq_true rfl) d_T_character_88 ⟨by have a := hP.2; have b := hx; show _ + 100 ≤ 120 + (2663816 - Phi rs) / 16; omega, by have a := hP.1; have b := hx; show _ + 200000 ≤ 700000 + (2663816 - Phi rs); omega⟩ (fun rv d2 lo2 va2 kc ns hp => ?_)
                  obtain ⟨⟨v4, rfl⟩, rfl, rfl, rfl, rfl, rfl⟩ := hp
                  show V X D CL A _ _ _ _ _ _ _ (.int v4 :: [.ref (ob (t + 1))])
                  refine v_iload_n hX d_T_character_91 rfl rfl ?_
                  refine v_iadd hX d_T_character_92 ?_
                  refine c_V hX (t + 1) (rest := []) hl (L_get hI (t + 1) (shRK ht 0 (by decide)) (v4 + x2)) ml_T_62 im_R_get se_R_get in_R cd_R_get rfl q_R_get ⟨(Nat.le_of_ble_eq_true rfl), (Nat.le_of_ble_eq_true rfl)⟩ (hI.1.1 (t + 1) (shRK ht 0 (by decide))).1 (hI.1.1 (t + 1) (shRK ht 0 (by decide))).2.2.1 (hI.1.1 (t + 1) (shRK ht 0 (by decide))).2.2.2.1.v rfl rfl rfl rfl (Nat.le_of_ble_eq_true rfl) d_T_character_93 ⟨by have a := hP.2; have b := hx; show _ + 100 ≤ 120 + (2663816 - Phi rs) / 16; omega, by have a := hP.1; have b := hx; show _ + 200000 ≤ 700000 + (2663816 - Phi rs); omega⟩ (fun rv d2 lo2 va2 kc ns hp => ?_)
                  obtain ⟨⟨v5, rfl⟩, rfl, rfl, rfl, rfl, rfl⟩ := hp
                  show V X D CL A _ _ _ _ _ _ _ (.int v5 :: [])
                  refine v_goto hX d_T_character_96 (tgt := 101) (by decide) ?_
                  exact v_iret hX hE d_T_character_101 (by have a := hP.2; have b := hx; show _ ≤ 120 + (2663816 - Phi rs) / 16; omega) (by have a := hP.1; have b := hx; show _ ≤ 700000 + (2663816 - Phi rs); omega) ⟨⟨_, rfl⟩, rfl, rfl, rfl, rfl, rfl⟩
              · refine v_bipush (v := 32) hX d_T_character_50 (by decide) ?_
                exact v_iret hX hE d_T_character_52 (by have a := hP.2; have b := hx; show _ ≤ 120 + (2663816 - Phi rs) / 16; omega) (by have a := hP.1; have b := hx; show _ ≤ 700000 + (2663816 - Phi rs); omega) ⟨⟨_, rfl⟩, rfl, rfl, rfl, rfl, rfl⟩
            · refine v_iconst (v := (-1)) hX d_T_character_36 (by decide) ?_
              exact v_iret hX hE d_T_character_37 (by have a := hP.2; have b := hx; show _ ≤ 120 + (2663816 - Phi rs) / 16; omega) (by have a := hP.1; have b := hx; show _ ≤ 700000 + (2663816 - Phi rs); omega) ⟨⟨_, rfl⟩, rfl, rfl, rfl, rfl, rfl⟩
