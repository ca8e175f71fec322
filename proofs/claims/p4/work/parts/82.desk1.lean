section KD1
theorem lk_out {y : Int32} (h0 : ¬ y.toInt = 0) (h1 : ¬ y.toInt = 1) {d a b : Int} : Op.lookupswitch.offset [(0, a), (1, b)] d y.toInt = d := by
  simp [Op.lookupswitch.offset, h0, h1, Ne.symm h0, Ne.symm h1]
end KD1
set_option maxHeartbeats 4000000 in
set_option maxRecDepth 100000 in
theorem c_P_cell {l : Launch} {D : va_G} {A : Nat → Prop} {cI cB cZ cJ cN : ClassId} {ob : Nat → Nat} {td : Nat} {rs : RS} {sh : Nat → Int32 × Int32 × Int32} {T : TR} {n ha ch ts : Nat} {hp : Int32} {dom : Nat → Prop} {loc : Nat → Nat} {val : Nat → va_E} (hI : LayI cI ob td rs sh dom loc val) (hN : NodesI ob T n dom loc val) (hD : DeskI cN ob n ha ch ts hp dom loc val) (hU : TreeU T n) (hha : ha < n) (hts : ts = 5 ∨ ts = 30) (x y z : Int32) : kM l y_P_cell (Cond.code y_P_cell b_P_cell 4 (some FieldType.int) :: TT) (rmP 3 (Phi rs)) D CL (TY cI cB cZ cJ cN) A [.ref (ob 0), .int x, .int y, .int z] dom loc val (fun rv d lo va kc ns => (∃ v, rv = some (.int v)) ∧ dom = d ∧ loc = lo ∧ val = va ∧ kc = 0 ∧ ns = 0) := by
  refine kM_of (lv0 := [some (.ref (ob 0)), some (.int x), some (.int y), some (.int z)]) (own := "ProsePages") (by decide) rfl (List.forall_mem_cons.mpr ⟨rfl, List.forall_mem_cons.mpr ⟨rfl, List.forall_mem_cons.mpr ⟨rfl, List.forall_mem_cons.mpr ⟨rfl, fun _ h => nomatch h⟩⟩⟩⟩) (Nat.le_of_ble_eq_true rfl) rfl (Nat.le_of_ble_eq_true rfl) (fun X hl hX hE hin0 => ?_)
  have hP : pay rs rs 0 0 := pay.rf
  have hx : Phi rs ≤ 2663816 := hI.1.phi
  have hn3 := hN.1
  refine v_aload_n hX d_P_cell_0 rfl rfl ?_
  refine v_get hX 0 (v := .int hp) inT4 hD.1.1 hD.1.2.1 hD.1.2.2 rfl 7 (by decide) fl_P_122 rfl rfl d_P_cell_1 ?_
  refine v_if_eq hX d_P_cell_4 (tgt := 20) (by decide) (fun c4 => ?_) (fun c4 => ?_)
  · refine v_iconst (v := (-1)) hX d_P_cell_20 (by decide) ?_
    exact v_iret hX hE d_P_cell_21 (by have a := hP.2; have b := hx; show _ ≤ 120 + (2663816 - Phi rs) / 16; omega) (by have a := hP.1; have b := hx; show _ ≤ 700000 + (2663816 - Phi rs); omega) ⟨⟨_, rfl⟩, rfl, rfl, rfl, rfl, rfl⟩
  · refine v_aload_n hX d_P_cell_7 rfl rfl ?_
    refine v_get hX 0 (v := .ref (ob ts)) inT4 hD.1.1 hD.1.2.1 hD.1.2.2 rfl 6 (by decide) fl_P_25 rfl rfl d_P_cell_8 ?_
    refine v_iload_n hX d_P_cell_11 rfl rfl ?_
    refine v_iload_n hX d_P_cell_12 rfl rfl ?_
    refine v_iload_n hX d_P_cell_13 rfl rfl ?_
    refine c_V hX ts (rest := []) hl (c_T_character hI hts x y z) ml_P_153 im_T_character se_T_character in_T cd_T_character rfl q_T_character ⟨(Nat.le_of_ble_eq_true rfl), (Nat.le_of_ble_eq_true rfl)⟩ (hI.sheet hts).1 (hI.sheet hts).2.1 (hI.sheet hts).2.2 rfl rfl rfl rfl (Nat.le_of_ble_eq_true rfl) d_P_cell_14 ⟨by have a := hP.2; have b := hx; show _ + (120 + (2663816 - Phi rs) / 16) ≤ 120 + (2663816 - Phi rs) / 16; omega, by have a := hP.1; have b := hx; show _ + (700000 + (2663816 - Phi rs)) ≤ 700000 + (2663816 - Phi rs); omega⟩ (fun rv d2 lo2 va2 kc ns hp => ?_)
    obtain ⟨⟨v1, rfl⟩, rfl, rfl, rfl, rfl, rfl⟩ := hp
    show V X D CL A _ _ _ _ _ _ _ (.int v1 :: [])
    refine v_goto hX d_P_cell_17 (tgt := 21) (by decide) ?_
    exact v_iret hX hE d_P_cell_21 (by have a := hP.2; have b := hx; show _ ≤ 120 + (2663816 - Phi rs) / 16; omega) (by have a := hP.1; have b := hx; show _ ≤ 700000 + (2663816 - Phi rs); omega) ⟨⟨_, rfl⟩, rfl, rfl, rfl, rfl, rfl⟩
set_option maxHeartbeats 4000000 in
set_option maxRecDepth 100000 in
theorem c_P_page {l : Launch} {D : va_G} {A : Nat → Prop} {cI cB cZ cJ cN : ClassId} {ob : Nat → Nat} {td : Nat} {rs : RS} {sh : Nat → Int32 × Int32 × Int32} {T : TR} {n ha ch ts : Nat} {hp : Int32} {dom : Nat → Prop} {loc : Nat → Nat} {val : Nat → va_E} (hI : LayI cI ob td rs sh dom loc val) (hN : NodesI ob T n dom loc val) (hD : DeskI cN ob n ha ch ts hp dom loc val) (hU : TreeU T n) (hha : ha < n) (hts : ts = 5 ∨ ts = 30) (x y : Int32) : kM l y_P_page (Cond.code y_P_page b_P_page 3 (some FieldType.int) :: TT) (rmP 3 (Phi rs)) D CL (TY cI cB cZ cJ cN) A [.ref (ob 0), .int x, .int y] dom loc val (fun rv d lo va kc ns => (∃ v, rv = some (.int v)) ∧ dom = d ∧ loc = lo ∧ val = va ∧ kc = 0 ∧ ns = 0) := by
  refine kM_of (lv0 := [some (.ref (ob 0)), some (.int x), some (.int y)]) (own := "ProsePages") (by decide) rfl (List.forall_mem_cons.mpr ⟨rfl, List.forall_mem_cons.mpr ⟨rfl, List.forall_mem_cons.mpr ⟨rfl, fun _ h => nomatch h⟩⟩⟩) (Nat.le_of_ble_eq_true rfl) rfl (Nat.le_of_ble_eq_true rfl) (fun X hl hX hE hin0 => ?_)
  have hP : pay rs rs 0 0 := pay.rf
  have hx : Phi rs ≤ 2663816 := hI.1.phi
  have hn3 := hN.1
  refine v_aload_n hX d_P_page_0 rfl rfl ?_
  refine v_get hX 0 (v := .int hp) inT4 hD.1.1 hD.1.2.1 hD.1.2.2 rfl 7 (by decide) fl_P_122 rfl rfl d_P_page_1 ?_
  refine v_if_eq hX d_P_page_4 (tgt := 22) (by decide) (fun c4 => ?_) (fun c4 => ?_)
  · refine v_iconst (v := (-1)) hX d_P_page_22 (by decide) ?_
    exact v_iret hX hE d_P_page_23 (by have a := hP.2; have b := hx; show _ ≤ 120 + (2663816 - Phi rs) / 16; omega) (by have a := hP.1; have b := hx; show _ ≤ 700000 + (2663816 - Phi rs); omega) ⟨⟨_, rfl⟩, rfl, rfl, rfl, rfl, rfl⟩
  · refine v_iload_n hX d_P_page_7 rfl rfl ?_
    refine v_if_lt hX d_P_page_8 (tgt := 22) (by decide) (fun c8 => ?_) (fun c8 => ?_)
    · refine v_iconst (v := (-1)) hX d_P_page_22 (by decide) ?_
      exact v_iret hX hE d_P_page_23 (by have a := hP.2; have b := hx; show _ ≤ 120 + (2663816 - Phi rs) / 16; omega) (by have a := hP.1; have b := hx; show _ ≤ 700000 + (2663816 - Phi rs); omega) ⟨⟨_, rfl⟩, rfl, rfl, rfl, rfl, rfl⟩
    · refine v_iload_n hX d_P_page_11 rfl rfl ?_
      refine v_aload_n hX d_P_page_12 rfl rfl ?_
      refine v_get hX 0 (v := .ref (ob ts)) inT4 hD.1.1 hD.1.2.1 hD.1.2.2 rfl 6 (by decide) fl_P_25 rfl rfl d_P_page_13 ?_
      refine c_V hX ts (rest := [.int x]) hl (c_T_pageCount hI hts) ml_P_150 im_T_pageCount se_T_pageCount in_T cd_T_pageCount rfl q_T_pageCount ⟨(Nat.le_of_ble_eq_true rfl), (Nat.le_of_ble_eq_true rfl)⟩ (hI.sheet hts).1 (hI.sheet hts).2.1 (hI.sheet hts).2.2 rfl rfl rfl rfl (Nat.le_of_ble_eq_true rfl) d_P_page_16 ⟨by have a := hP.2; have b := hx; show _ + (120 + (2663816 - Phi rs) / 16) ≤ 120 + (2663816 - Phi rs) / 16; omega, by have a := hP.1; have b := hx; show _ + (700000 + (2663816 - Phi rs)) ≤ 700000 + (2663816 - Phi rs); omega⟩ (fun rv d2 lo2 va2 kc ns hp => ?_)
      obtain ⟨rfl, rfl, rfl, rfl, rfl, rfl⟩ := hp
      show V X D CL A _ _ _ _ _ _ _ (.int (nI (rs (ts + 13)).1) :: [.int x])
      refine v_icmp_lt hX d_P_page_19 (tgt := 24) (by decide) (fun c19 => ?_) (fun c19 => ?_)
      · refine v_iload_n hX d_P_page_24 rfl rfl ?_
        by_cases hw0 : (y).toInt = 0
        · refine v_lookup hX d_P_page_25 (off := 27) (tgt := 52) (by decide) (by rw [hw0]; rfl) (by decide) ?_
          refine v_aload_n hX d_P_page_52 rfl rfl ?_
          refine v_get hX 0 (v := .ref (ob ts)) inT4 hD.1.1 hD.1.2.1 hD.1.2.2 rfl 6 (by decide) fl_P_25 rfl rfl d_P_page_53 ?_
          refine v_get hX ts (v := .ref (ob (ts + 15))) inT3 (hI.sheet hts).1 (hI.sheet hts).2.1 (hI.sheet hts).2.2 rfl 7 (by decide) fl_P_157 rfl rfl d_P_page_56 ?_
          refine v_iload_n hX d_P_page_59 rfl rfl ?_
          refine c_V hX (ts + 15) (rest := []) hl (L_get hI (ts + 15) (shRK hts 7 (by decide)) x) ml_P_160 im_R_get se_R_get in_R cd_R_get rfl q_R_get ⟨(Nat.le_of_ble_eq_true rfl), (Nat.le_of_ble_eq_true rfl)⟩ (hI.1.1 (ts + 15) (shRK hts 7 (by decide))).1 (hI.1.1 (ts + 15) (shRK hts 7 (by decide))).2.2.1 (hI.1.1 (ts + 15) (shRK hts 7 (by decide))).2.2.2.1.v rfl rfl rfl rfl (Nat.le_of_ble_eq_true rfl) d_P_page_60 ⟨by have a := hP.2; have b := hx; show _ + 100 ≤ 120 + (2663816 - Phi rs) / 16; omega, by have a := hP.1; have b := hx; show _ + 200000 ≤ 700000 + (2663816 - Phi rs); omega⟩ (fun rv d2 lo2 va2 kc ns hp => ?_)
          obtain ⟨⟨v1, rfl⟩, rfl, rfl, rfl, rfl, rfl⟩ := hp
          show V X D CL A _ _ _ _ _ _ _ (.int v1 :: [])
          exact v_iret hX hE d_P_page_63 (by have a := hP.2; have b := hx; show _ ≤ 120 + (2663816 - Phi rs) / 16; omega) (by have a := hP.1; have b := hx; show _ ≤ 700000 + (2663816 - Phi rs); omega) ⟨⟨_, rfl⟩, rfl, rfl, rfl, rfl, rfl⟩
        by_cases hw1 : (y).toInt = 1
        · refine v_lookup hX d_P_page_25 (off := 39) (tgt := 64) (by decide) (by rw [hw1]; rfl) (by decide) ?_
          refine v_aload_n hX d_P_page_64 rfl rfl ?_
          refine v_get hX 0 (v := .ref (ob ts)) inT4 hD.1.1 hD.1.2.1 hD.1.2.2 rfl 6 (by decide) fl_P_25 rfl rfl d_P_page_65 ?_
          refine v_get hX ts (v := .ref (ob (ts + 13))) inT3 (hI.sheet hts).1 (hI.sheet hts).2.1 (hI.sheet hts).2.2 rfl 6 (by decide) fl_P_164 rfl rfl d_P_page_68 ?_
          refine v_iload_n hX d_P_page_71 rfl rfl ?_
          refine c_V hX (ts + 13) (rest := []) hl (L_get hI (ts + 13) (shRK hts 6 (by decide)) x) ml_P_160 im_R_get se_R_get in_R cd_R_get rfl q_R_get ⟨(Nat.le_of_ble_eq_true rfl), (Nat.le_of_ble_eq_true rfl)⟩ (hI.1.1 (ts + 13) (shRK hts 6 (by decide))).1 (hI.1.1 (ts + 13) (shRK hts 6 (by decide))).2.2.1 (hI.1.1 (ts + 13) (shRK hts 6 (by decide))).2.2.2.1.v rfl rfl rfl rfl (Nat.le_of_ble_eq_true rfl) d_P_page_72 ⟨by have a := hP.2; have b := hx; show _ + 100 ≤ 120 + (2663816 - Phi rs) / 16; omega, by have a := hP.1; have b := hx; show _ + 200000 ≤ 700000 + (2663816 - Phi rs); omega⟩ (fun rv d2 lo2 va2 kc ns hp => ?_)
          obtain ⟨⟨v2, rfl⟩, rfl, rfl, rfl, rfl, rfl⟩ := hp
          show V X D CL A _ _ _ _ _ _ _ (.int v2 :: [])
          exact v_iret hX hE d_P_page_75 (by have a := hP.2; have b := hx; show _ ≤ 120 + (2663816 - Phi rs) / 16; omega) (by have a := hP.1; have b := hx; show _ ≤ 700000 + (2663816 - Phi rs); omega) ⟨⟨_, rfl⟩, rfl, rfl, rfl, rfl, rfl⟩
        refine v_lookup hX d_P_page_25 (off := 51) (tgt := 76) (by decide) (lk_out hw0 hw1) (by decide) ?_
        refine v_iconst (v := (-1)) hX d_P_page_76 (by decide) ?_
        exact v_iret hX hE d_P_page_77 (by have a := hP.2; have b := hx; show _ ≤ 120 + (2663816 - Phi rs) / 16; omega) (by have a := hP.1; have b := hx; show _ ≤ 700000 + (2663816 - Phi rs); omega) ⟨⟨_, rfl⟩, rfl, rfl, rfl, rfl, rfl⟩
      · refine v_iconst (v := (-1)) hX d_P_page_22 (by decide) ?_
        exact v_iret hX hE d_P_page_23 (by have a := hP.2; have b := hx; show _ ≤ 120 + (2663816 - Phi rs) / 16; omega) (by have a := hP.1; have b := hx; show _ ≤ 700000 + (2663816 - Phi rs); omega) ⟨⟨_, rfl⟩, rfl, rfl, rfl, rfl, rfl⟩
set_option maxHeartbeats 4000000 in
set_option maxRecDepth 100000 in
theorem c_P_line {l : Launch} {D : va_G} {A : Nat → Prop} {cI cB cZ cJ cN : ClassId} {ob : Nat → Nat} {td : Nat} {rs : RS} {sh : Nat → Int32 × Int32 × Int32} {T : TR} {n ha ch ts : Nat} {hp : Int32} {dom : Nat → Prop} {loc : Nat → Nat} {val : Nat → va_E} (hI : LayI cI ob td rs sh dom loc val) (hN : NodesI ob T n dom loc val) (hD : DeskI cN ob n ha ch ts hp dom loc val) (hU : TreeU T n) (hha : ha < n) (hts : ts = 5 ∨ ts = 30) (x y : Int32) : kM l y_P_line (Cond.code y_P_line b_P_line 3 (some FieldType.int) :: TT) (rmP 3 (Phi rs)) D CL (TY cI cB cZ cJ cN) A [.ref (ob 0), .int x, .int y] dom loc val (fun rv d lo va kc ns => (∃ v, rv = some (.int v)) ∧ dom = d ∧ loc = lo ∧ val = va ∧ kc = 0 ∧ ns = 0) := by
  refine kM_of (lv0 := [some (.ref (ob 0)), some (.int x), some (.int y)]) (own := "ProsePages") (by decide) rfl (List.forall_mem_cons.mpr ⟨rfl, List.forall_mem_cons.mpr ⟨rfl, List.forall_mem_cons.mpr ⟨rfl, fun _ h => nomatch h⟩⟩⟩) (Nat.le_of_ble_eq_true rfl) rfl (Nat.le_of_ble_eq_true rfl) (fun X hl hX hE hin0 => ?_)
  have hP : pay rs rs 0 0 := pay.rf
  have hx : Phi rs ≤ 2663816 := hI.1.phi
  have hn3 := hN.1
  refine v_aload_n hX d_P_line_0 rfl rfl ?_
  refine v_get hX 0 (v := .int hp) inT4 hD.1.1 hD.1.2.1 hD.1.2.2 rfl 7 (by decide) fl_P_122 rfl rfl d_P_line_1 ?_
  refine v_if_eq hX d_P_line_4 (tgt := 22) (by decide) (fun c4 => ?_) (fun c4 => ?_)
  · refine v_iconst (v := (-1)) hX d_P_line_22 (by decide) ?_
    exact v_iret hX hE d_P_line_23 (by have a := hP.2; have b := hx; show _ ≤ 120 + (2663816 - Phi rs) / 16; omega) (by have a := hP.1; have b := hx; show _ ≤ 700000 + (2663816 - Phi rs); omega) ⟨⟨_, rfl⟩, rfl, rfl, rfl, rfl, rfl⟩
  · refine v_iload_n hX d_P_line_7 rfl rfl ?_
    refine v_if_lt hX d_P_line_8 (tgt := 22) (by decide) (fun c8 => ?_) (fun c8 => ?_)
    · refine v_iconst (v := (-1)) hX d_P_line_22 (by decide) ?_
      exact v_iret hX hE d_P_line_23 (by have a := hP.2; have b := hx; show _ ≤ 120 + (2663816 - Phi rs) / 16; omega) (by have a := hP.1; have b := hx; show _ ≤ 700000 + (2663816 - Phi rs); omega) ⟨⟨_, rfl⟩, rfl, rfl, rfl, rfl, rfl⟩
    · refine v_iload_n hX d_P_line_11 rfl rfl ?_
      refine v_aload_n hX d_P_line_12 rfl rfl ?_
      refine v_get hX 0 (v := .ref (ob ts)) inT4 hD.1.1 hD.1.2.1 hD.1.2.2 rfl 6 (by decide) fl_P_25 rfl rfl d_P_line_13 ?_
      refine c_V hX ts (rest := [.int x]) hl (c_T_lineCount hI hts) ml_P_167 im_T_lineCount se_T_lineCount in_T cd_T_lineCount rfl q_T_lineCount ⟨(Nat.le_of_ble_eq_true rfl), (Nat.le_of_ble_eq_true rfl)⟩ (hI.sheet hts).1 (hI.sheet hts).2.1 (hI.sheet hts).2.2 rfl rfl rfl rfl (Nat.le_of_ble_eq_true rfl) d_P_line_16 ⟨by have a := hP.2; have b := hx; show _ + (120 + (2663816 - Phi rs) / 16) ≤ 120 + (2663816 - Phi rs) / 16; omega, by have a := hP.1; have b := hx; show _ + (700000 + (2663816 - Phi rs)) ≤ 700000 + (2663816 - Phi rs); omega⟩ (fun rv d2 lo2 va2 kc ns hp => ?_)
      obtain ⟨rfl, rfl, rfl, rfl, rfl, rfl⟩ := hp
      show V X D CL A _ _ _ _ _ _ _ (.int (nI (rs (ts + 3)).1) :: [.int x])
      refine v_icmp_lt hX d_P_line_19 (tgt := 24) (by decide) (fun c19 => ?_) (fun c19 => ?_)
      · refine v_iload_n hX d_P_line_24 rfl rfl ?_
        by_cases hw : (y).toInt < 0 ∨ 2 < (y).toInt
        · refine v_tableOut hX d_P_line_25 (tgt := 96) hw (by decide) ?_
          refine v_iconst (v := (-1)) hX d_P_line_96 (by decide) ?_
          exact v_iret hX hE d_P_line_97 (by have a := hP.2; have b := hx; show _ ≤ 120 + (2663816 - Phi rs) / 16; omega) (by have a := hP.1; have b := hx; show _ ≤ 700000 + (2663816 - Phi rs); omega) ⟨⟨_, rfl⟩, rfl, rfl, rfl, rfl, rfl⟩
        · have hk9 : (y).toInt = 0 ∨ (y).toInt = 1 ∨ (y).toInt = 2 := by omega
          rcases hk9 with hk9 | hk9 | hk9
          · refine v_tableIn hX d_P_line_25 (tgt := 52) (by omega) (by omega) (off := 27) (by rw [hk9]; rfl) (by decide) ?_
            refine v_aload_n hX d_P_line_52 rfl rfl ?_
            refine v_get hX 0 (v := .ref (ob ts)) inT4 hD.1.1 hD.1.2.1 hD.1.2.2 rfl 6 (by decide) fl_P_25 rfl rfl d_P_line_53 ?_
            refine v_get hX ts (v := .ref (ob (ts + 5))) inT3 (hI.sheet hts).1 (hI.sheet hts).2.1 (hI.sheet hts).2.2 rfl 2 (by decide) fl_P_170 rfl rfl d_P_line_56 ?_
            refine v_iload_n hX d_P_line_59 rfl rfl ?_
            refine c_V hX (ts + 5) (rest := []) hl (L_get hI (ts + 5) (shRK hts 2 (by decide)) x) ml_P_160 im_R_get se_R_get in_R cd_R_get rfl q_R_get ⟨(Nat.le_of_ble_eq_true rfl), (Nat.le_of_ble_eq_true rfl)⟩ (hI.1.1 (ts + 5) (shRK hts 2 (by decide))).1 (hI.1.1 (ts + 5) (shRK hts 2 (by decide))).2.2.1 (hI.1.1 (ts + 5) (shRK hts 2 (by decide))).2.2.2.1.v rfl rfl rfl rfl (Nat.le_of_ble_eq_true rfl) d_P_line_60 ⟨by have a := hP.2; have b := hx; show _ + 100 ≤ 120 + (2663816 - Phi rs) / 16; omega, by have a := hP.1; have b := hx; show _ + 200000 ≤ 700000 + (2663816 - Phi rs); omega⟩ (fun rv d2 lo2 va2 kc ns hp => ?_)
            obtain ⟨⟨v1, rfl⟩, rfl, rfl, rfl, rfl, rfl⟩ := hp
            show V X D CL A _ _ _ _ _ _ _ (.int v1 :: [])
            exact v_iret hX hE d_P_line_63 (by have a := hP.2; have b := hx; show _ ≤ 120 + (2663816 - Phi rs) / 16; omega) (by have a := hP.1; have b := hx; show _ ≤ 700000 + (2663816 - Phi rs); omega) ⟨⟨_, rfl⟩, rfl, rfl, rfl, rfl, rfl⟩
          · refine v_tableIn hX d_P_line_25 (tgt := 64) (by omega) (by omega) (off := 39) (by rw [hk9]; rfl) (by decide) ?_
            refine v_aload_n hX d_P_line_64 rfl rfl ?_
            refine v_get hX 0 (v := .ref (ob ts)) inT4 hD.1.1 hD.1.2.1 hD.1.2.2 rfl 6 (by decide) fl_P_25 rfl rfl d_P_line_65 ?_
            refine v_get hX ts (v := .ref (ob (ts + 7))) inT3 (hI.sheet hts).1 (hI.sheet hts).2.1 (hI.sheet hts).2.2 rfl 3 (by decide) fl_P_173 rfl rfl d_P_line_68 ?_
            refine v_iload_n hX d_P_line_71 rfl rfl ?_
            refine c_V hX (ts + 7) (rest := []) hl (L_get hI (ts + 7) (shRK hts 3 (by decide)) x) ml_P_160 im_R_get se_R_get in_R cd_R_get rfl q_R_get ⟨(Nat.le_of_ble_eq_true rfl), (Nat.le_of_ble_eq_true rfl)⟩ (hI.1.1 (ts + 7) (shRK hts 3 (by decide))).1 (hI.1.1 (ts + 7) (shRK hts 3 (by decide))).2.2.1 (hI.1.1 (ts + 7) (shRK hts 3 (by decide))).2.2.2.1.v rfl rfl rfl rfl (Nat.le_of_ble_eq_true rfl) d_P_line_72 ⟨by have a := hP.2; have b := hx; show _ + 100 ≤ 120 + (2663816 - Phi rs) / 16; omega, by have a := hP.1; have b := hx; show _ + 200000 ≤ 700000 + (2663816 - Phi rs); omega⟩ (fun rv d2 lo2 va2 kc ns hp => ?_)
            obtain ⟨⟨v2, rfl⟩, rfl, rfl, rfl, rfl, rfl⟩ := hp
            show V X D CL A _ _ _ _ _ _ _ (.int v2 :: [])
            exact v_iret hX hE d_P_line_75 (by have a := hP.2; have b := hx; show _ ≤ 120 + (2663816 - Phi rs) / 16; omega) (by have a := hP.1; have b := hx; show _ ≤ 700000 + (2663816 - Phi rs); omega) ⟨⟨_, rfl⟩, rfl, rfl, rfl, rfl, rfl⟩
          · refine v_tableIn hX d_P_line_25 (tgt := 76) (by omega) (by omega) (off := 51) (by rw [hk9]; rfl) (by decide) ?_
            refine v_aload_n hX d_P_line_76 rfl rfl ?_
            refine v_get hX 0 (v := .ref (ob ts)) inT4 hD.1.1 hD.1.2.1 hD.1.2.2 rfl 6 (by decide) fl_P_25 rfl rfl d_P_line_77 ?_
            refine v_get hX ts (v := .ref (ob (ts + 9))) inT3 (hI.sheet hts).1 (hI.sheet hts).2.1 (hI.sheet hts).2.2 rfl 4 (by decide) fl_P_176 rfl rfl d_P_line_80 ?_
            refine v_iload_n hX d_P_line_83 rfl rfl ?_
            refine c_V hX (ts + 9) (rest := []) hl (L_get hI (ts + 9) (shRK hts 4 (by decide)) x) ml_P_160 im_R_get se_R_get in_R cd_R_get rfl q_R_get ⟨(Nat.le_of_ble_eq_true rfl), (Nat.le_of_ble_eq_true rfl)⟩ (hI.1.1 (ts + 9) (shRK hts 4 (by decide))).1 (hI.1.1 (ts + 9) (shRK hts 4 (by decide))).2.2.1 (hI.1.1 (ts + 9) (shRK hts 4 (by decide))).2.2.2.1.v rfl rfl rfl rfl (Nat.le_of_ble_eq_true rfl) d_P_line_84 ⟨by have a := hP.2; have b := hx; show _ + 100 ≤ 120 + (2663816 - Phi rs) / 16; omega, by have a := hP.1; have b := hx; show _ + 200000 ≤ 700000 + (2663816 - Phi rs); omega⟩ (fun rv d2 lo2 va2 kc ns hp => ?_)
            obtain ⟨⟨v3, rfl⟩, rfl, rfl, rfl, rfl, rfl⟩ := hp
            show V X D CL A _ _ _ _ _ _ _ (.int v3 :: [])
            refine v_if_le hX d_P_line_87 (tgt := 94) (by decide) (fun c87 => ?_) (fun c87 => ?_)
            · refine v_iconst (v := 0) hX d_P_line_94 (by decide) ?_
              exact v_iret hX hE d_P_line_95 (by have a := hP.2; have b := hx; show _ ≤ 120 + (2663816 - Phi rs) / 16; omega) (by have a := hP.1; have b := hx; show _ ≤ 700000 + (2663816 - Phi rs); omega) ⟨⟨_, rfl⟩, rfl, rfl, rfl, rfl, rfl⟩
            · refine v_iconst (v := 1) hX d_P_line_90 (by decide) ?_
              refine v_goto hX d_P_line_91 (tgt := 95) (by decide) ?_
              exact v_iret hX hE d_P_line_95 (by have a := hP.2; have b := hx; show _ ≤ 120 + (2663816 - Phi rs) / 16; omega) (by have a := hP.1; have b := hx; show _ ≤ 700000 + (2663816 - Phi rs); omega) ⟨⟨_, rfl⟩, rfl, rfl, rfl, rfl, rfl⟩
      · refine v_iconst (v := (-1)) hX d_P_line_22 (by decide) ?_
        exact v_iret hX hE d_P_line_23 (by have a := hP.2; have b := hx; show _ ≤ 120 + (2663816 - Phi rs) / 16; omega) (by have a := hP.1; have b := hx; show _ ≤ 700000 + (2663816 - Phi rs); omega) ⟨⟨_, rfl⟩, rfl, rfl, rfl, rfl, rfl⟩
set_option maxHeartbeats 4000000 in
set_option maxRecDepth 100000 in
theorem c_P_about {l : Launch} {D : va_G} {A : Nat → Prop} {cI cB cZ cJ cN : ClassId} {ob : Nat → Nat} {td : Nat} {rs : RS} {sh : Nat → Int32 × Int32 × Int32} {T : TR} {n ha ch ts : Nat} {hp : Int32} {dom : Nat → Prop} {loc : Nat → Nat} {val : Nat → va_E} (hI : LayI cI ob td rs sh dom loc val) (hN : NodesI ob T n dom loc val) (hD : DeskI cN ob n ha ch ts hp dom loc val) (hU : TreeU T n) (hha : ha < n) (hts : ts = 5 ∨ ts = 30) (x : Int32) : kM l y_P_about (Cond.code y_P_about b_P_about 2 (some FieldType.int) :: TT) (rmP 3 (Phi rs)) D CL (TY cI cB cZ cJ cN) A [.ref (ob 0), .int x] dom loc val (fun rv d lo va kc ns => (∃ v, rv = some (.int v)) ∧ dom = d ∧ loc = lo ∧ val = va ∧ kc = 0 ∧ ns = 0) := by
  refine kM_of (lv0 := [some (.ref (ob 0)), some (.int x)]) (own := "ProsePages") (by decide) rfl (List.forall_mem_cons.mpr ⟨rfl, List.forall_mem_cons.mpr ⟨rfl, fun _ h => nomatch h⟩⟩) (Nat.le_of_ble_eq_true rfl) rfl (Nat.le_of_ble_eq_true rfl) (fun X hl hX hE hin0 => ?_)
  have hP : pay rs rs 0 0 := pay.rf
  have hx : Phi rs ≤ 2663816 := hI.1.phi
  have hn3 := hN.1
  refine v_iload_n hX d_P_about_0 rfl rfl ?_
  by_cases hw : (x).toInt < 0 ∨ 6 < (x).toInt
  · refine v_tableOut hX d_P_about_1 (tgt := 138) hw (by decide) ?_
    refine v_iconst (v := (-1)) hX d_P_about_138 (by decide) ?_
    exact v_iret hX hE d_P_about_139 (by have a := hP.2; have b := hx; show _ ≤ 120 + (2663816 - Phi rs) / 16; omega) (by have a := hP.1; have b := hx; show _ ≤ 700000 + (2663816 - Phi rs); omega) ⟨⟨_, rfl⟩, rfl, rfl, rfl, rfl, rfl⟩
  · have hk9 : (x).toInt = 0 ∨ (x).toInt = 1 ∨ (x).toInt = 2 ∨ (x).toInt = 3 ∨ (x).toInt = 4 ∨ (x).toInt = 5 ∨ (x).toInt = 6 := by omega
    rcases hk9 with hk9 | hk9 | hk9 | hk9 | hk9 | hk9 | hk9
    · refine v_tableIn hX d_P_about_1 (tgt := 44) (by omega) (by omega) (off := 43) (by rw [hk9]; rfl) (by decide) ?_
      refine v_aload_n hX d_P_about_44 rfl rfl ?_
      refine v_get hX 0 (v := .int (nI n)) inT4 hD.1.1 hD.1.2.1 hD.1.2.2 rfl 4 (by decide) fl_P_39 rfl rfl d_P_about_45 ?_
      exact v_iret hX hE d_P_about_48 (by have a := hP.2; have b := hx; show _ ≤ 120 + (2663816 - Phi rs) / 16; omega) (by have a := hP.1; have b := hx; show _ ≤ 700000 + (2663816 - Phi rs); omega) ⟨⟨_, rfl⟩, rfl, rfl, rfl, rfl, rfl⟩
    · refine v_tableIn hX d_P_about_1 (tgt := 49) (by omega) (by omega) (off := 48) (by rw [hk9]; rfl) (by decide) ?_
      refine v_aload_n hX d_P_about_49 rfl rfl ?_
      refine v_get hX 0 (v := .int (nI ch)) inT4 hD.1.1 hD.1.2.1 hD.1.2.2 rfl 5 (by decide) fl_P_101 rfl rfl d_P_about_50 ?_
      exact v_iret hX hE d_P_about_53 (by have a := hP.2; have b := hx; show _ ≤ 120 + (2663816 - Phi rs) / 16; omega) (by have a := hP.1; have b := hx; show _ ≤ 700000 + (2663816 - Phi rs); omega) ⟨⟨_, rfl⟩, rfl, rfl, rfl, rfl, rfl⟩
    · refine v_tableIn hX d_P_about_1 (tgt := 54) (by omega) (by omega) (off := 53) (by rw [hk9]; rfl) (by decide) ?_
      refine v_aload_n hX d_P_about_54 rfl rfl ?_
      refine v_get hX 0 (v := .ref (ob (1000 + ha))) inT4 hD.1.1 hD.1.2.1 hD.1.2.2 rfl 3 (by decide) fl_P_36 rfl rfl d_P_about_55 ?_
      refine v_get hX (1000 + ha) (v := .int (nI ha)) inT0 (hN.2 ha hha).1 (hN.2 ha hha).2.1 (hN.2 ha hha).2.2.choose_spec.choose_spec.choose_spec.choose_spec rfl 0 (by decide) fl_P_93 rfl rfl d_P_about_58 ?_
      exact v_iret hX hE d_P_about_61 (by have a := hP.2; have b := hx; show _ ≤ 120 + (2663816 - Phi rs) / 16; omega) (by have a := hP.1; have b := hx; show _ ≤ 700000 + (2663816 - Phi rs); omega) ⟨⟨_, rfl⟩, rfl, rfl, rfl, rfl, rfl⟩
    · refine v_tableIn hX d_P_about_1 (tgt := 62) (by omega) (by omega) (off := 61) (by rw [hk9]; rfl) (by decide) ?_
      refine v_aload_n hX d_P_about_62 rfl rfl ?_
      refine v_get hX 0 (v := .int hp) inT4 hD.1.1 hD.1.2.1 hD.1.2.2 rfl 7 (by decide) fl_P_122 rfl rfl d_P_about_63 ?_
      refine v_if_eq hX d_P_about_66 (tgt := 79) (by decide) (fun c66 => ?_) (fun c66 => ?_)
      · refine v_iconst (v := 0) hX d_P_about_79 (by decide) ?_
        exact v_iret hX hE d_P_about_80 (by have a := hP.2; have b := hx; show _ ≤ 120 + (2663816 - Phi rs) / 16; omega) (by have a := hP.1; have b := hx; show _ ≤ 700000 + (2663816 - Phi rs); omega) ⟨⟨_, rfl⟩, rfl, rfl, rfl, rfl, rfl⟩
      · refine v_aload_n hX d_P_about_69 rfl rfl ?_
        refine v_get hX 0 (v := .ref (ob ts)) inT4 hD.1.1 hD.1.2.1 hD.1.2.2 rfl 6 (by decide) fl_P_25 rfl rfl d_P_about_70 ?_
        refine c_V hX ts (rest := []) hl (c_T_pageCount hI hts) ml_P_150 im_T_pageCount se_T_pageCount in_T cd_T_pageCount rfl q_T_pageCount ⟨(Nat.le_of_ble_eq_true rfl), (Nat.le_of_ble_eq_true rfl)⟩ (hI.sheet hts).1 (hI.sheet hts).2.1 (hI.sheet hts).2.2 rfl rfl rfl rfl (Nat.le_of_ble_eq_true rfl) d_P_about_73 ⟨by have a := hP.2; have b := hx; show _ + (120 + (2663816 - Phi rs) / 16) ≤ 120 + (2663816 - Phi rs) / 16; omega, by have a := hP.1; have b := hx; show _ + (700000 + (2663816 - Phi rs)) ≤ 700000 + (2663816 - Phi rs); omega⟩ (fun rv d2 lo2 va2 kc ns hp => ?_)
        obtain ⟨rfl, rfl, rfl, rfl, rfl, rfl⟩ := hp
        show V X D CL A _ _ _ _ _ _ _ (.int (nI (rs (ts + 13)).1) :: [])
        refine v_goto hX d_P_about_76 (tgt := 80) (by decide) ?_
        exact v_iret hX hE d_P_about_80 (by have a := hP.2; have b := hx; show _ ≤ 120 + (2663816 - Phi rs) / 16; omega) (by have a := hP.1; have b := hx; show _ ≤ 700000 + (2663816 - Phi rs); omega) ⟨⟨_, rfl⟩, rfl, rfl, rfl, rfl, rfl⟩
    · refine v_tableIn hX d_P_about_1 (tgt := 81) (by omega) (by omega) (off := 80) (by rw [hk9]; rfl) (by decide) ?_
      refine v_aload_n hX d_P_about_81 rfl rfl ?_
      refine v_get hX 0 (v := .int hp) inT4 hD.1.1 hD.1.2.1 hD.1.2.2 rfl 7 (by decide) fl_P_122 rfl rfl d_P_about_82 ?_
      refine v_if_eq hX d_P_about_85 (tgt := 98) (by decide) (fun c85 => ?_) (fun c85 => ?_)
      · refine v_iconst (v := 0) hX d_P_about_98 (by decide) ?_
        exact v_iret hX hE d_P_about_99 (by have a := hP.2; have b := hx; show _ ≤ 120 + (2663816 - Phi rs) / 16; omega) (by have a := hP.1; have b := hx; show _ ≤ 700000 + (2663816 - Phi rs); omega) ⟨⟨_, rfl⟩, rfl, rfl, rfl, rfl, rfl⟩
      · refine v_aload_n hX d_P_about_88 rfl rfl ?_
        refine v_get hX 0 (v := .ref (ob ts)) inT4 hD.1.1 hD.1.2.1 hD.1.2.2 rfl 6 (by decide) fl_P_25 rfl rfl d_P_about_89 ?_
        refine c_V hX ts (rest := []) hl (c_T_lineCount hI hts) ml_P_167 im_T_lineCount se_T_lineCount in_T cd_T_lineCount rfl q_T_lineCount ⟨(Nat.le_of_ble_eq_true rfl), (Nat.le_of_ble_eq_true rfl)⟩ (hI.sheet hts).1 (hI.sheet hts).2.1 (hI.sheet hts).2.2 rfl rfl rfl rfl (Nat.le_of_ble_eq_true rfl) d_P_about_92 ⟨by have a := hP.2; have b := hx; show _ + (120 + (2663816 - Phi rs) / 16) ≤ 120 + (2663816 - Phi rs) / 16; omega, by have a := hP.1; have b := hx; show _ + (700000 + (2663816 - Phi rs)) ≤ 700000 + (2663816 - Phi rs); omega⟩ (fun rv d2 lo2 va2 kc ns hp => ?_)
        obtain ⟨rfl, rfl, rfl, rfl, rfl, rfl⟩ := hp
        show V X D CL A _ _ _ _ _ _ _ (.int (nI (rs (ts + 3)).1) :: [])
        refine v_goto hX d_P_about_95 (tgt := 99) (by decide) ?_
        exact v_iret hX hE d_P_about_99 (by have a := hP.2; have b := hx; show _ ≤ 120 + (2663816 - Phi rs) / 16; omega) (by have a := hP.1; have b := hx; show _ ≤ 700000 + (2663816 - Phi rs); omega) ⟨⟨_, rfl⟩, rfl, rfl, rfl, rfl, rfl⟩
    · refine v_tableIn hX d_P_about_1 (tgt := 100) (by omega) (by omega) (off := 99) (by rw [hk9]; rfl) (by decide) ?_
      refine v_aload_n hX d_P_about_100 rfl rfl ?_
      refine v_get hX 0 (v := .int hp) inT4 hD.1.1 hD.1.2.1 hD.1.2.2 rfl 7 (by decide) fl_P_122 rfl rfl d_P_about_101 ?_
      refine v_if_eq hX d_P_about_104 (tgt := 117) (by decide) (fun c104 => ?_) (fun c104 => ?_)
      · refine v_iconst (v := 0) hX d_P_about_117 (by decide) ?_
        exact v_iret hX hE d_P_about_118 (by have a := hP.2; have b := hx; show _ ≤ 120 + (2663816 - Phi rs) / 16; omega) (by have a := hP.1; have b := hx; show _ ≤ 700000 + (2663816 - Phi rs); omega) ⟨⟨_, rfl⟩, rfl, rfl, rfl, rfl, rfl⟩
      · refine v_aload_n hX d_P_about_107 rfl rfl ?_
        refine v_get hX 0 (v := .ref (ob ts)) inT4 hD.1.1 hD.1.2.1 hD.1.2.2 rfl 6 (by decide) fl_P_25 rfl rfl d_P_about_108 ?_
        refine v_get hX ts (v := .int (sh ts).1) inT3 (hI.sheet hts).1 (hI.sheet hts).2.1 (hI.sheet hts).2.2 rfl 8 (by decide) fl_P_186 rfl rfl d_P_about_111 ?_
        refine v_goto hX d_P_about_114 (tgt := 118) (by decide) ?_
        exact v_iret hX hE d_P_about_118 (by have a := hP.2; have b := hx; show _ ≤ 120 + (2663816 - Phi rs) / 16; omega) (by have a := hP.1; have b := hx; show _ ≤ 700000 + (2663816 - Phi rs); omega) ⟨⟨_, rfl⟩, rfl, rfl, rfl, rfl, rfl⟩
    · refine v_tableIn hX d_P_about_1 (tgt := 119) (by omega) (by omega) (off := 118) (by rw [hk9]; rfl) (by decide) ?_
      refine v_aload_n hX d_P_about_119 rfl rfl ?_
      refine v_get hX 0 (v := .int hp) inT4 hD.1.1 hD.1.2.1 hD.1.2.2 rfl 7 (by decide) fl_P_122 rfl rfl d_P_about_120 ?_
      refine v_if_eq hX d_P_about_123 (tgt := 136) (by decide) (fun c123 => ?_) (fun c123 => ?_)
      · refine v_iconst (v := 0) hX d_P_about_136 (by decide) ?_
        exact v_iret hX hE d_P_about_137 (by have a := hP.2; have b := hx; show _ ≤ 120 + (2663816 - Phi rs) / 16; omega) (by have a := hP.1; have b := hx; show _ ≤ 700000 + (2663816 - Phi rs); omega) ⟨⟨_, rfl⟩, rfl, rfl, rfl, rfl, rfl⟩
      · refine v_aload_n hX d_P_about_126 rfl rfl ?_
        refine v_get hX 0 (v := .ref (ob ts)) inT4 hD.1.1 hD.1.2.1 hD.1.2.2 rfl 6 (by decide) fl_P_25 rfl rfl d_P_about_127 ?_
        refine v_get hX ts (v := .int (sh ts).2.1) inT3 (hI.sheet hts).1 (hI.sheet hts).2.1 (hI.sheet hts).2.2 rfl 9 (by decide) fl_P_189 rfl rfl d_P_about_130 ?_
        refine v_goto hX d_P_about_133 (tgt := 137) (by decide) ?_
        exact v_iret hX hE d_P_about_137 (by have a := hP.2; have b := hx; show _ ≤ 120 + (2663816 - Phi rs) / 16; omega) (by have a := hP.1; have b := hx; show _ ≤ 700000 + (2663816 - Phi rs); omega) ⟨⟨_, rfl⟩, rfl, rfl, rfl, rfl, rfl⟩
set_option maxHeartbeats 4000000 in
set_option maxRecDepth 100000 in
theorem c_P_nodeAt {l : Launch} {D : va_G} {A : Nat → Prop} {cI cB cZ cJ cN : ClassId} {ob : Nat → Nat} {td : Nat} {rs : RS} {sh : Nat → Int32 × Int32 × Int32} {T : TR} {n ha ch ts : Nat} {hp : Int32} {dom : Nat → Prop} {loc : Nat → Nat} {val : Nat → va_E} (hI : LayI cI ob td rs sh dom loc val) (hN : NodesI ob T n dom loc val) (hD : DeskI cN ob n ha ch ts hp dom loc val) (hU : TreeU T n) (hha : ha < n) (hts : ts = 5 ∨ ts = 30) (x : Int32) : kM l y_P_nodeAt (Cond.code y_P_nodeAt b_P_nodeAt 2 (some (FieldType.object "ProsePages$Node")) :: TT) (rmP 1 (Phi rs)) D CL (TY cI cB cZ cJ cN) A [.ref (ob 0), .int x] dom loc val (fun rv d lo va kc ns => (∃ o : Option Nat, (∀ j, o = some j → j < n) ∧ rv = some (orf ob o)) ∧ dom = d ∧ loc = lo ∧ val = va ∧ kc = 0 ∧ ns = 0) := by
  refine kM_of (lv0 := [some (.ref (ob 0)), some (.int x)]) (own := "ProsePages") (by decide) rfl (List.forall_mem_cons.mpr ⟨rfl, List.forall_mem_cons.mpr ⟨rfl, fun _ h => nomatch h⟩⟩) (Nat.le_of_ble_eq_true rfl) rfl (Nat.le_of_ble_eq_true rfl) (fun X hl hX hE hin0 => ?_)
  have hP : pay rs rs 0 0 := pay.rf
  have hx : Phi rs ≤ 2663816 := hI.1.phi
  have hn3 := hN.1
  refine v_iload_n hX d_P_nodeAt_0 rfl rfl ?_
  refine v_if_lt hX d_P_nodeAt_1 (tgt := 30) (by decide) (fun c1 => ?_) (fun c1 => ?_)
  · refine v_null hX d_P_nodeAt_30 ?_
    exact v_aret hX hE none d_P_nodeAt_31 (by have a := hP.2; have b := hx; show _ ≤ 120 + (2663816 - Phi rs) / 16; omega) (by have a := hP.1; have b := hx; show _ ≤ 700000 + (2663816 - Phi rs); omega) ⟨⟨none, (fun _ h => nomatch h), rfl⟩, rfl, rfl, rfl, rfl, rfl⟩
  · refine v_iload_n hX d_P_nodeAt_4 rfl rfl ?_
    refine v_aload_n hX d_P_nodeAt_5 rfl rfl ?_
    refine v_get hX 0 (v := .int (nI n)) inT4 hD.1.1 hD.1.2.1 hD.1.2.2 rfl 4 (by decide) fl_P_39 rfl rfl d_P_nodeAt_6 ?_
    refine v_icmp_ge hX d_P_nodeAt_9 (tgt := 30) (by decide) (fun c9 => ?_) (fun c9 => ?_)
    · refine v_null hX d_P_nodeAt_30 ?_
      exact v_aret hX hE none d_P_nodeAt_31 (by have a := hP.2; have b := hx; show _ ≤ 120 + (2663816 - Phi rs) / 16; omega) (by have a := hP.1; have b := hx; show _ ≤ 700000 + (2663816 - Phi rs); omega) ⟨⟨none, (fun _ h => nomatch h), rfl⟩, rfl, rfl, rfl, rfl, rfl⟩
    · obtain ⟨kn, hkn, rfl⟩ := nI_of c1
      have hkk : kn < n := by have q : ¬ n ≤ kn := (fun z => c9 ((nI_leI (a := n) (b := kn) (by omega) (by omega)).mpr z)); omega
      refine v_iload_n hX d_P_nodeAt_12 rfl rfl ?_
      refine v_aload_n hX d_P_nodeAt_13 rfl rfl ?_
      refine v_get hX 0 (v := .ref (ob 1)) inT4 hD.1.1 hD.1.2.1 hD.1.2.2 rfl 0 (by decide) fl_P_11 rfl rfl d_P_nodeAt_14 ?_
      refine v_nodeAlen hX hD d_P_nodeAt_17 ?_
      refine v_icmp_ge hX d_P_nodeAt_18 (tgt := 30) (by decide) (fun c18 => ?_) (fun c18 => ?_)
      · have f18 : 300 ≤ kn := (nI_leI (a := 300) (b := kn) (by omega) (by omega)).mp c18
        refine v_null hX d_P_nodeAt_30 ?_
        exact v_aret hX hE none d_P_nodeAt_31 (by have a := hP.2; have b := hx; show _ ≤ 120 + (2663816 - Phi rs) / 16; omega) (by have a := hP.1; have b := hx; show _ ≤ 700000 + (2663816 - Phi rs); omega) ⟨⟨none, (fun _ h => nomatch h), rfl⟩, rfl, rfl, rfl, rfl, rfl⟩
      · have f18 : ¬ 300 ≤ kn := fun z => c18 ((nI_leI (a := 300) (b := kn) (by omega) (by omega)).mpr z)
        refine v_aload_n hX d_P_nodeAt_21 rfl rfl ?_
        refine v_get hX 0 (v := .ref (ob 1)) inT4 hD.1.1 hD.1.2.1 hD.1.2.2 rfl 0 (by decide) fl_P_11 rfl rfl d_P_nodeAt_22 ?_
        refine v_iload_n hX d_P_nodeAt_25 rfl rfl ?_
        refine v_nodeAld hX hD (i := kn) (by omega) (by omega) d_P_nodeAt_26 ?_
        refine v_goto hX d_P_nodeAt_27 (tgt := 31) (by decide) ?_
        exact v_aret hX hE (some (ob (1000 + kn))) d_P_nodeAt_31 (by have a := hP.2; have b := hx; show _ ≤ 120 + (2663816 - Phi rs) / 16; omega) (by have a := hP.1; have b := hx; show _ ≤ 700000 + (2663816 - Phi rs); omega) ⟨⟨some kn, fun j h => by cases h; exact hkk, rfl⟩, rfl, rfl, rfl, rfl, rfl⟩
set_option maxHeartbeats 4000000 in
set_option maxRecDepth 100000 in
theorem c_P_find {l : Launch} {D : va_G} {A : Nat → Prop} {cI cB cZ cJ cN : ClassId} {ob : Nat → Nat} {td : Nat} {rs : RS} {sh : Nat → Int32 × Int32 × Int32} {T : TR} {n ha ch ts : Nat} {hp : Int32} {dom : Nat → Prop} {loc : Nat → Nat} {val : Nat → va_E} (hI : LayI cI ob td rs sh dom loc val) (hN : NodesI ob T n dom loc val) (hD : DeskI cN ob n ha ch ts hp dom loc val) (hU : TreeU T n) (hha : ha < n) (hts : ts = 5 ∨ ts = 30) (x : Int32) : kM l y_P_find (Cond.code y_P_find b_P_find 3 (some FieldType.int) :: TT) (rmP 3 (Phi rs)) D CL (TY cI cB cZ cJ cN) A [.ref (ob 0), .int x] dom loc val (fun rv d lo va kc ns => (∃ v, rv = some (.int v)) ∧ dom = d ∧ loc = lo ∧ val = va ∧ kc = 0 ∧ ns = 0) := by
  refine kM_of (lv0 := [some (.ref (ob 0)), some (.int x), none]) (own := "ProsePages") (by decide) rfl (List.forall_mem_cons.mpr ⟨rfl, List.forall_mem_cons.mpr ⟨rfl, fun _ h => nomatch h⟩⟩) (Nat.le_of_ble_eq_true rfl) rfl (Nat.le_of_ble_eq_true rfl) (fun X hl hX hE hin0 => ?_)
  have hP : pay rs rs 0 0 := pay.rf
  have hx : Phi rs ≤ 2663816 := hI.1.phi
  have hn3 := hN.1
  refine v_aload_n hX d_P_find_0 rfl rfl ?_
  refine v_iload_n hX d_P_find_1 rfl rfl ?_
  refine c_V hX 0 (rest := []) hl (c_P_nodeAt hI hN hD hU hha hts x) ml_P_179 im_P_nodeAt se_P_nodeAt in_P cd_P_nodeAt rfl q_P_nodeAt ⟨(Nat.le_of_ble_eq_true rfl), (Nat.le_of_ble_eq_true rfl)⟩ hD.1.1 hD.1.2.1 hD.1.2.2 rfl rfl rfl rfl (Nat.le_of_ble_eq_true rfl) d_P_find_2 ⟨by have a := hP.2; have b := hx; show _ + (120 + (2663816 - Phi rs) / 16) ≤ 120 + (2663816 - Phi rs) / 16; omega, by have a := hP.1; have b := hx; show _ + (700000 + (2663816 - Phi rs)) ≤ 700000 + (2663816 - Phi rs); omega⟩ (fun rv d2 lo2 va2 kc ns hp => ?_)
  obtain ⟨⟨on1, ho1, rfl⟩, rfl, rfl, rfl, rfl, rfl⟩ := hp
  show V X D CL A _ _ _ _ _ _ _ (orf ob on1 :: [])
  refine v_astore_nQ (lv' := [some (.ref (ob 0)), some (.int x), some (orf ob on1)]) hX (on1.map (fun i => ob (1000 + i))) d_P_find_5 rfl (Nat.le_of_ble_eq_true rfl) rfl ?_
  refine v_aload_nQ hX (on1.map (fun i => ob (1000 + i))) d_P_find_6 rfl rfl ?_
  rcases hq2 : on1 with _ | j2
  · refine v_ifnull hX none d_P_find_7 (tgt := 17) (by decide) (fun _ => ?_) (fun _ h => nomatch h)
    refine v_iconst (v := (-1)) hX d_P_find_17 (by decide) ?_
    refine v_goto hX d_P_find_18 (tgt := 25) (by decide) ?_
    exact v_iret hX hE d_P_find_25 (by have a := hP.2; have b := hx; show _ ≤ 120 + (2663816 - Phi rs) / 16; omega) (by have a := hP.1; have b := hx; show _ ≤ 700000 + (2663816 - Phi rs); omega) ⟨⟨_, rfl⟩, rfl, rfl, rfl, rfl, rfl⟩
  · have ht_j2 := ho1 j2 hq2
    refine v_ifnull hX (some (ob (1000 + j2))) d_P_find_7 (tgt := 17) (by decide) (fun h => nomatch h) (fun _ _ => ?_)
    refine v_aload_n hX d_P_find_10 rfl rfl ?_
    refine v_get hX 0 (v := .int hp) inT4 hD.1.1 hD.1.2.1 hD.1.2.2 rfl 7 (by decide) fl_P_122 rfl rfl d_P_find_11 ?_
    refine v_if_ne hX d_P_find_14 (tgt := 21) (by decide) (fun c14 => ?_) (fun c14 => ?_)
    · refine v_aload_n hX d_P_find_21 rfl rfl ?_
      refine v_get hX (1000 + j2) (v := .int ((hN.2 j2 ht_j2).2.2.choose_spec.choose_spec.choose_spec.choose)) inT0 (hN.2 j2 ht_j2).1 (hN.2 j2 ht_j2).2.1 (hN.2 j2 ht_j2).2.2.choose_spec.choose_spec.choose_spec.choose_spec rfl 11 (by decide) fl_P_183 rfl rfl d_P_find_22 ?_
      exact v_iret hX hE d_P_find_25 (by have a := hP.2; have b := hx; show _ ≤ 120 + (2663816 - Phi rs) / 16; omega) (by have a := hP.1; have b := hx; show _ ≤ 700000 + (2663816 - Phi rs); omega) ⟨⟨_, rfl⟩, rfl, rfl, rfl, rfl, rfl⟩
    · refine v_iconst (v := (-1)) hX d_P_find_17 (by decide) ?_
      refine v_goto hX d_P_find_18 (tgt := 25) (by decide) ?_
      exact v_iret hX hE d_P_find_25 (by have a := hP.2; have b := hx; show _ ≤ 120 + (2663816 - Phi rs) / 16; omega) (by have a := hP.1; have b := hx; show _ ≤ 700000 + (2663816 - Phi rs); omega) ⟨⟨_, rfl⟩, rfl, rfl, rfl, rfl, rfl⟩
set_option maxHeartbeats 4000000 in
set_option maxRecDepth 100000 in
theorem c_P_node {l : Launch} {D : va_G} {A : Nat → Prop} {cI cB cZ cJ cN : ClassId} {ob : Nat → Nat} {td : Nat} {rs : RS} {sh : Nat → Int32 × Int32 × Int32} {T : TR} {n ha ch ts : Nat} {hp : Int32} {dom : Nat → Prop} {loc : Nat → Nat} {val : Nat → va_E} (hI : LayI cI ob td rs sh dom loc val) (hN : NodesI ob T n dom loc val) (hD : DeskI cN ob n ha ch ts hp dom loc val) (hU : TreeU T n) (hha : ha < n) (hts : ts = 5 ∨ ts = 30) (x y : Int32) : kM l y_P_node (Cond.code y_P_node b_P_node 4 (some FieldType.int) :: TT) (rmP 3 (Phi rs)) D CL (TY cI cB cZ cJ cN) A [.ref (ob 0), .int x, .int y] dom loc val (fun rv d lo va kc ns => (∃ v, rv = some (.int v)) ∧ dom = d ∧ loc = lo ∧ val = va ∧ kc = 0 ∧ ns = 0) := by
  refine kM_of (lv0 := [some (.ref (ob 0)), some (.int x), some (.int y), none]) (own := "ProsePages") (by decide) rfl (List.forall_mem_cons.mpr ⟨rfl, List.forall_mem_cons.mpr ⟨rfl, List.forall_mem_cons.mpr ⟨rfl, fun _ h => nomatch h⟩⟩⟩) (Nat.le_of_ble_eq_true rfl) rfl (Nat.le_of_ble_eq_true rfl) (fun X hl hX hE hin0 => ?_)
  have hP : pay rs rs 0 0 := pay.rf
  have hx : Phi rs ≤ 2663816 := hI.1.phi
  have hn3 := hN.1
  refine v_aload_n hX d_P_node_0 rfl rfl ?_
  refine v_iload_n hX d_P_node_1 rfl rfl ?_
  refine c_V hX 0 (rest := []) hl (c_P_nodeAt hI hN hD hU hha hts x) ml_P_179 im_P_nodeAt se_P_nodeAt in_P cd_P_nodeAt rfl q_P_nodeAt ⟨(Nat.le_of_ble_eq_true rfl), (Nat.le_of_ble_eq_true rfl)⟩ hD.1.1 hD.1.2.1 hD.1.2.2 rfl rfl rfl rfl (Nat.le_of_ble_eq_true rfl) d_P_node_2 ⟨by have a := hP.2; have b := hx; show _ + (120 + (2663816 - Phi rs) / 16) ≤ 120 + (2663816 - Phi rs) / 16; omega, by have a := hP.1; have b := hx; show _ + (700000 + (2663816 - Phi rs)) ≤ 700000 + (2663816 - Phi rs); omega⟩ (fun rv d2 lo2 va2 kc ns hp => ?_)
  obtain ⟨⟨on1, ho1, rfl⟩, rfl, rfl, rfl, rfl, rfl⟩ := hp
  show V X D CL A _ _ _ _ _ _ _ (orf ob on1 :: [])
  refine v_astore_nQ (lv' := [some (.ref (ob 0)), some (.int x), some (.int y), some (orf ob on1)]) hX (on1.map (fun i => ob (1000 + i))) d_P_node_5 rfl (Nat.le_of_ble_eq_true rfl) rfl ?_
  refine v_aload_nQ hX (on1.map (fun i => ob (1000 + i))) d_P_node_6 rfl rfl ?_
  rcases hq2 : on1 with _ | j2
  · refine v_ifnonnull hX none d_P_node_7 (tgt := 12) (by decide) (fun _ h => nomatch h) (fun _ => ?_)
    refine v_iconst (v := (-1)) hX d_P_node_10 (by decide) ?_
    exact v_iret hX hE d_P_node_11 (by have a := hP.2; have b := hx; show _ ≤ 120 + (2663816 - Phi rs) / 16; omega) (by have a := hP.1; have b := hx; show _ ≤ 700000 + (2663816 - Phi rs); omega) ⟨⟨_, rfl⟩, rfl, rfl, rfl, rfl, rfl⟩
  · have ht_j2 := ho1 j2 hq2
    refine v_ifnonnull hX (some (ob (1000 + j2))) d_P_node_7 (tgt := 12) (by decide) (fun _ _ => ?_) (fun h => nomatch h)
    refine v_iload_n hX d_P_node_12 rfl rfl ?_
    by_cases hw : (y).toInt < 0 ∨ 2 < (y).toInt
    · refine v_tableOut hX d_P_node_13 (tgt := 69) hw (by decide) ?_
      refine v_iconst (v := (-1)) hX d_P_node_69 (by decide) ?_
      exact v_iret hX hE d_P_node_70 (by have a := hP.2; have b := hx; show _ ≤ 120 + (2663816 - Phi rs) / 16; omega) (by have a := hP.1; have b := hx; show _ ≤ 700000 + (2663816 - Phi rs); omega) ⟨⟨_, rfl⟩, rfl, rfl, rfl, rfl, rfl⟩
    · have hk9 : (y).toInt = 0 ∨ (y).toInt = 1 ∨ (y).toInt = 2 := by omega
      rcases hk9 with hk9 | hk9 | hk9
      · refine v_tableIn hX d_P_node_13 (tgt := 40) (by omega) (by omega) (off := 27) (by rw [hk9]; rfl) (by decide) ?_
        refine v_aload_n hX d_P_node_40 rfl rfl ?_
        refine v_get hX (1000 + j2) (v := .int (tK T j2)) inT0 (hN.2 j2 ht_j2).1 (hN.2 j2 ht_j2).2.1 (hN.2 j2 ht_j2).2.2.choose_spec.choose_spec.choose_spec.choose_spec rfl 1 (by decide) fl_P_109 rfl rfl d_P_node_41 ?_
        exact v_iret hX hE d_P_node_44 (by have a := hP.2; have b := hx; show _ ≤ 120 + (2663816 - Phi rs) / 16; omega) (by have a := hP.1; have b := hx; show _ ≤ 700000 + (2663816 - Phi rs); omega) ⟨⟨_, rfl⟩, rfl, rfl, rfl, rfl, rfl⟩
      · refine v_tableIn hX d_P_node_13 (tgt := 45) (by omega) (by omega) (off := 32) (by rw [hk9]; rfl) (by decide) ?_
        refine v_aload_n hX d_P_node_45 rfl rfl ?_
        refine v_get hX (1000 + j2) (v := orf ob (tU T j2)) inT0 (hN.2 j2 ht_j2).1 (hN.2 j2 ht_j2).2.1 (hN.2 j2 ht_j2).2.2.choose_spec.choose_spec.choose_spec.choose_spec rfl 2 (by decide) fl_P_96 rfl rfl d_P_node_46 ?_
        rcases hq3 : (tU T j2) with _ | j3
        · refine v_ifnonnull hX none d_P_node_49 (tgt := 56) (by decide) (fun _ h => nomatch h) (fun _ => ?_)
          refine v_iconst (v := (-1)) hX d_P_node_52 (by decide) ?_
          refine v_goto hX d_P_node_53 (tgt := 63) (by decide) ?_
          exact v_iret hX hE d_P_node_63 (by have a := hP.2; have b := hx; show _ ≤ 120 + (2663816 - Phi rs) / 16; omega) (by have a := hP.1; have b := hx; show _ ≤ 700000 + (2663816 - Phi rs); omega) ⟨⟨_, rfl⟩, rfl, rfl, rfl, rfl, rfl⟩
        · have ht_j3 : j3 < n := Nat.lt_trans (hU.1 j2 j3 ht_j2 hq3) ht_j2
          refine v_ifnonnull hX (some (ob (1000 + j3))) d_P_node_49 (tgt := 56) (by decide) (fun _ _ => ?_) (fun h => nomatch h)
          refine v_aload_n hX d_P_node_56 rfl rfl ?_
          refine v_get hX (1000 + j2) (v := .ref (ob (1000 + j3))) inT0 (hN.2 j2 ht_j2).1 (hN.2 j2 ht_j2).2.1 (hN.2 j2 ht_j2).2.2.choose_spec.choose_spec.choose_spec.choose_spec rfl 2 (by decide) fl_P_96 rfl (by show some (orf ob (tU T j2)) = _; rw [hq3]; rfl) d_P_node_57 ?_
          refine v_get hX (1000 + j3) (v := .int (nI j3)) inT0 (hN.2 j3 ht_j3).1 (hN.2 j3 ht_j3).2.1 (hN.2 j3 ht_j3).2.2.choose_spec.choose_spec.choose_spec.choose_spec rfl 0 (by decide) fl_P_93 rfl rfl d_P_node_60 ?_
          exact v_iret hX hE d_P_node_63 (by have a := hP.2; have b := hx; show _ ≤ 120 + (2663816 - Phi rs) / 16; omega) (by have a := hP.1; have b := hx; show _ ≤ 700000 + (2663816 - Phi rs); omega) ⟨⟨_, rfl⟩, rfl, rfl, rfl, rfl, rfl⟩
      · refine v_tableIn hX d_P_node_13 (tgt := 64) (by omega) (by omega) (off := 51) (by rw [hk9]; rfl) (by decide) ?_
        refine v_aload_n hX d_P_node_64 rfl rfl ?_
        refine v_get hX (1000 + j2) (v := .int (tV T j2)) inT0 (hN.2 j2 ht_j2).1 (hN.2 j2 ht_j2).2.1 (hN.2 j2 ht_j2).2.2.choose_spec.choose_spec.choose_spec.choose_spec rfl 6 (by decide) fl_P_116 rfl rfl d_P_node_65 ?_
        exact v_iret hX hE d_P_node_68 (by have a := hP.2; have b := hx; show _ ≤ 120 + (2663816 - Phi rs) / 16; omega) (by have a := hP.1; have b := hx; show _ ≤ 700000 + (2663816 - Phi rs); omega) ⟨⟨_, rfl⟩, rfl, rfl, rfl, rfl, rfl⟩
set_option maxHeartbeats 4000000 in
set_option maxRecDepth 100000 in
theorem c_P_refused {l : Launch} {D : va_G} {A : Nat → Prop} {cI cB cZ cJ cN : ClassId} {ob : Nat → Nat} {td : Nat} {rs : RS} {sh : Nat → Int32 × Int32 × Int32} {T : TR} {n ha ch ts : Nat} {hp : Int32} {dom : Nat → Prop} {loc : Nat → Nat} {val : Nat → va_E} (hI : LayI cI ob td rs sh dom loc val) (hN : NodesI ob T n dom loc val) (hD : DeskI cN ob n ha ch ts hp dom loc val) (hU : TreeU T n) (hha : ha < n) (hts : ts = 5 ∨ ts = 30) (hde : tD T ha ≤ 12) : kM l y_P_isNodeRefused (Cond.code y_P_isNodeRefused b_P_isNodeRefused 1 (some FieldType.boolean) :: TT) (rmP 1 (Phi rs)) D CL (TY cI cB cZ cJ cN) A [.ref (ob 0)] dom loc val (fun rv d lo va kc ns => rv = some (.int (if 300 ≤ n then 1 else if 12 ≤ tD T ha then 1 else 0)) ∧ dom = d ∧ loc = lo ∧ val = va ∧ kc = 0 ∧ ns = 0) := by
  refine kM_of (lv0 := [some (.ref (ob 0))]) (own := "ProsePages") (by decide) rfl (List.forall_mem_cons.mpr ⟨rfl, fun _ h => nomatch h⟩) (Nat.le_of_ble_eq_true rfl) rfl (Nat.le_of_ble_eq_true rfl) (fun X hl hX hE hin0 => ?_)
  have hP : pay rs rs 0 0 := pay.rf
  have hx : Phi rs ≤ 2663816 := hI.1.phi
  have hn3 := hN.1
  refine v_aload_n hX d_P_isNodeRefused_0 rfl rfl ?_
  refine v_get hX 0 (v := .int (nI n)) inT4 hD.1.1 hD.1.2.1 hD.1.2.2 rfl 4 (by decide) fl_P_39 rfl rfl d_P_isNodeRefused_1 ?_
  refine v_sipush (v := 300) hX d_P_isNodeRefused_4 (by decide) ?_
  refine v_icmp_ge hX d_P_isNodeRefused_7 (tgt := 22) (by decide) (fun c7 => ?_) (fun c7 => ?_)
  · have f7 : 300 ≤ n := (nI_leI (a := 300) (b := n) (by omega) (by omega)).mp c7
    refine v_iconst (v := 1) hX d_P_isNodeRefused_22 (by decide) ?_
    refine v_goto hX d_P_isNodeRefused_23 (tgt := 27) (by decide) ?_
    exact v_zret hX hE (by first | decide | rfl | exact oneOf_nar | exact blk_nar | exact inl_nar | assumption) d_P_isNodeRefused_27 (by have a := hP.2; have b := hx; show _ ≤ 120 + (2663816 - Phi rs) / 16; omega) (by have a := hP.1; have b := hx; show _ ≤ 700000 + (2663816 - Phi rs); omega) ⟨congrArg (fun z => some (Value.int z)) (by rw [if_pos f7]), rfl, rfl, rfl, rfl, rfl⟩
  · have f7 : ¬ 300 ≤ n := fun z => c7 ((nI_leI (a := 300) (b := n) (by omega) (by omega)).mpr z)
    refine v_aload_n hX d_P_isNodeRefused_10 rfl rfl ?_
    refine v_get hX 0 (v := .ref (ob (1000 + ha))) inT4 hD.1.1 hD.1.2.1 hD.1.2.2 rfl 3 (by decide) fl_P_36 rfl rfl d_P_isNodeRefused_11 ?_
    refine v_get hX (1000 + ha) (v := .int (nI (tD T ha))) inT0 (hN.2 ha hha).1 (hN.2 ha hha).2.1 (hN.2 ha hha).2.2.choose_spec.choose_spec.choose_spec.choose_spec rfl 3 (by decide) fl_P_192 rfl rfl d_P_isNodeRefused_14 ?_
    refine v_bipush (v := 12) hX d_P_isNodeRefused_17 (by decide) ?_
    refine v_icmp_lt hX d_P_isNodeRefused_19 (tgt := 26) (by decide) (fun c19 => ?_) (fun c19 => ?_)
    · have f19 : (tD T ha) < 12 := (nI_ltI (a := (tD T ha)) (b := 12) (by omega) (by omega)).mp c19
      refine v_iconst (v := 0) hX d_P_isNodeRefused_26 (by decide) ?_
      exact v_zret hX hE (by first | decide | rfl | exact oneOf_nar | exact blk_nar | exact inl_nar | assumption) d_P_isNodeRefused_27 (by have a := hP.2; have b := hx; show _ ≤ 120 + (2663816 - Phi rs) / 16; omega) (by have a := hP.1; have b := hx; show _ ≤ 700000 + (2663816 - Phi rs); omega) ⟨congrArg (fun z => some (Value.int z)) (by rw [if_neg f7, if_neg (by omega)]), rfl, rfl, rfl, rfl, rfl⟩
    · have f19 : ¬ (tD T ha) < 12 := fun z => c19 ((nI_ltI (a := (tD T ha)) (b := 12) (by omega) (by omega)).mpr z)
      refine v_iconst (v := 1) hX d_P_isNodeRefused_22 (by decide) ?_
      refine v_goto hX d_P_isNodeRefused_23 (tgt := 27) (by decide) ?_
      exact v_zret hX hE (by first | decide | rfl | exact oneOf_nar | exact blk_nar | exact inl_nar | assumption) d_P_isNodeRefused_27 (by have a := hP.2; have b := hx; show _ ≤ 120 + (2663816 - Phi rs) / 16; omega) (by have a := hP.1; have b := hx; show _ ≤ 700000 + (2663816 - Phi rs); omega) ⟨congrArg (fun z => some (Value.int z)) (by rw [if_neg f7, if_pos (by omega)]), rfl, rfl, rfl, rfl, rfl⟩
