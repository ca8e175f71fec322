set_option maxHeartbeats 4000000 in
set_option maxRecDepth 100000 in
theorem c_P_end {l : Launch} {D : va_G} {A : Nat → Prop} {cI cB cZ cJ cN : ClassId} {ob : Nat → Nat} {td : Nat} {rs : RS} {sh : Nat → Int32 × Int32 × Int32} {T : TR} {n ha ch ts : Nat} {hp : Int32} {dom : Nat → Prop} {loc : Nat → Nat} {val : Nat → va_E} (hI : LayI cI ob td rs sh dom loc val) (hN : NodesI ob T n dom loc val) (hD : DeskI cN ob n ha ch ts hp dom loc val) (hU : TreeU T n) (hha : ha < n) (hts : ts = 5 ∨ ts = 30)  : kM l y_P_end (Cond.code y_P_end b_P_end 1 (some FieldType.int) :: TT) (rmP 1 (Phi rs)) D CL (TY cI cB cZ cJ cN) A [.ref (ob 0)] dom loc val (fun rv d lo va kc ns => dom = d ∧ loc = lo ∧ kc = 0 ∧ ns = 0 ∧ frC loc val lo va ∧ LayI cI ob td rs sh dom lo va ∧ NodesI ob T n dom lo va ∧ ((tU T ha = none ∧ rv = some (.int (-1)) ∧ DeskI cN ob n ha ch ts hp dom lo va) ∨ (∃ j, tU T ha = some j ∧ rv = some (.int (nI j)) ∧ DeskI cN ob n j ch ts hp dom lo va))) := by
  refine kM_of (lv0 := [some (.ref (ob 0))]) (own := "ProsePages") (by decide) rfl (List.forall_mem_cons.mpr ⟨rfl, fun _ h => nomatch h⟩) (Nat.le_of_ble_eq_true rfl) rfl (Nat.le_of_ble_eq_true rfl) (fun X hl hX hE hin0 => ?_)
  have hP : pay rs rs 0 0 := pay.rf
  have hx : Phi rs ≤ 2663816 := hI.1.phi
  have hn3 := hN.1
  refine v_aload_n hX d_P_end_0 rfl rfl ?_
  refine v_get hX 0 (v := .ref (ob (1000 + ha))) inT4 hD.1.1 hD.1.2.1 hD.1.2.2 rfl 3 (by decide) fl_P_36 rfl rfl d_P_end_1 ?_
  refine v_get hX (1000 + ha) (v := orf ob (tU T ha)) inT0 (hN.2 ha hha).1 (hN.2 ha hha).2.1 (hN.2 ha hha).2.2.choose_spec.choose_spec.choose_spec.choose_spec rfl 2 (by decide) fl_P_96 rfl rfl d_P_end_4 ?_
  rcases hq1 : (tU T ha) with _ | j1
  · refine v_ifnonnull hX none d_P_end_7 (tgt := 12) (by decide) (fun _ h => nomatch h) (fun _ => ?_)
    refine v_iconst (v := (-1)) hX d_P_end_10 (by decide) ?_
    exact v_iret hX hE d_P_end_11 (by have a := hP.2; have b := hx; show _ ≤ 120 + (2663816 - Phi rs) / 16; omega) (by have a := hP.1; have b := hx; show _ ≤ 700000 + (2663816 - Phi rs); omega) ⟨rfl, rfl, rfl, rfl, frC.rf, hI, hN, Or.inl ⟨hq1, rfl, hD⟩⟩
  · have ht_j1 : j1 < n := Nat.lt_trans (hU.1 ha j1 hha hq1) hha
    refine v_ifnonnull hX (some (ob (1000 + j1))) d_P_end_7 (tgt := 12) (by decide) (fun _ _ => ?_) (fun h => nomatch h)
    refine v_aload_n hX d_P_end_12 rfl rfl ?_
    refine v_aload_n hX d_P_end_13 rfl rfl ?_
    refine v_get hX 0 (v := .ref (ob (1000 + ha))) inT4 hD.1.1 hD.1.2.1 hD.1.2.2 rfl 3 (by decide) fl_P_36 rfl rfl d_P_end_14 ?_
    refine v_get hX (1000 + ha) (v := .ref (ob (1000 + j1))) inT0 (hN.2 ha hha).1 (hN.2 ha hha).2.1 (hN.2 ha hha).2.2.choose_spec.choose_spec.choose_spec.choose_spec rfl 2 (by decide) fl_P_96 rfl (by show some (orf ob (tU T ha)) = _; rw [hq1]; rfl) d_P_end_17 ?_
    refine v_desk hX hI hN hD 3 (v := .ref (ob (1000 + j1))) (ha2 := j1) (ch2 := ch) (ts2 := ts) (hp2 := hp) (by decide) fl_P_36 rfl rfl rfl rfl d_P_end_20 rfl (fun va2 hI2 hN2 hD2 hf2 => ?_)
    refine v_aload_n hX d_P_end_23 rfl rfl ?_
    refine v_get hX 0 (v := .ref (ob (1000 + j1))) inT4 hD2.1.1 hD2.1.2.1 hD2.1.2.2 rfl 3 (by decide) fl_P_36 rfl rfl d_P_end_24 ?_
    refine v_get hX (1000 + j1) (v := .int (nI j1)) inT0 (hN2.2 j1 ht_j1).1 (hN2.2 j1 ht_j1).2.1 (hN2.2 j1 ht_j1).2.2.choose_spec.choose_spec.choose_spec.choose_spec rfl 0 (by decide) fl_P_93 rfl rfl d_P_end_27 ?_
    exact v_iret hX hE d_P_end_30 (by have a := hP.2; have b := hx; show _ ≤ 120 + (2663816 - Phi rs) / 16; omega) (by have a := hP.1; have b := hx; show _ ≤ 700000 + (2663816 - Phi rs); omega) ⟨rfl, rfl, rfl, rfl, (frC.rf.trans hf2), hI2, hN2, Or.inr ⟨j1, hq1, rfl, hD2⟩⟩
set_option maxHeartbeats 4000000 in
set_option maxRecDepth 100000 in
theorem c_P_pageOf {l : Launch} {D : va_G} {A : Nat → Prop} {cI cB cZ cJ cN : ClassId} {ob : Nat → Nat} {td : Nat} {rs : RS} {sh : Nat → Int32 × Int32 × Int32} {T : TR} {n ha ch ts : Nat} {hp : Int32} {dom : Nat → Prop} {loc : Nat → Nat} {val : Nat → va_E} (hI : LayI cI ob td rs sh dom loc val) (hN : NodesI ob T n dom loc val) (hD : DeskI cN ob n ha ch ts hp dom loc val) (hU : TreeU T n) (hha : ha < n) (hts : ts = 5 ∨ ts = 30) (hT : TreeI T n) {i : Nat} (hi : i < n) : kM l y_P_pageOfNode (Cond.code y_P_pageOfNode b_P_pageOfNode 3 (some FieldType.int) :: TT) (rmP 3 (Phi rs)) D CL (TY cI cB cZ cJ cN) A [.ref (ob 0), .ref (ob (1000 + i))] dom loc val (fun rv d lo va kc ns => (∃ v, rv = some (.int v)) ∧ dom = d ∧ loc = lo ∧ val = va ∧ kc = 0 ∧ ns = 0) := by
  refine kM_of (lv0 := [some (.ref (ob 0)), some (.ref (ob (1000 + i))), none]) (own := "ProsePages") (by decide) rfl (List.forall_mem_cons.mpr ⟨rfl, List.forall_mem_cons.mpr ⟨rfl, fun _ h => nomatch h⟩⟩) (Nat.le_of_ble_eq_true rfl) rfl (Nat.le_of_ble_eq_true rfl) (fun X hl hX hE hin0 => ?_)
  have hP : pay rs rs 0 0 := pay.rf
  have hx : Phi rs ≤ 2663816 := hI.1.phi
  have hn3 := hN.1
  refine v_aload_n hX d_P_pageOfNode_0 rfl rfl ?_
  refine v_get hX (1000 + i) (v := orf ob (tU T i)) inT0 (hN.2 i hi).1 (hN.2 i hi).2.1 (hN.2 i hi).2.2.choose_spec.choose_spec.choose_spec.choose_spec rfl 2 (by decide) fl_P_96 rfl rfl d_P_pageOfNode_1 ?_
  refine v_astore_nQ (lv' := [some (.ref (ob 0)), some (.ref (ob (1000 + i))), some (orf ob (tU T i))]) hX ((tU T i).map (fun i => ob (1000 + i))) d_P_pageOfNode_4 rfl (Nat.le_of_ble_eq_true rfl) rfl ?_
  refine v_aload_nQ hX ((tU T i).map (fun i => ob (1000 + i))) d_P_pageOfNode_5 rfl rfl ?_
  rcases hq1 : (tU T i) with _ | j1
  · refine v_ifnull hX none d_P_pageOfNode_6 (tgt := 30) (by decide) (fun _ => ?_) (fun _ h => nomatch h)
    refine v_aload_n hX d_P_pageOfNode_30 rfl rfl ?_
    refine v_get hX 0 (v := .ref (ob ts)) inT4 hD.1.1 hD.1.2.1 hD.1.2.2 rfl 6 (by decide) fl_P_25 rfl rfl d_P_pageOfNode_31 ?_
    refine v_aload_n hX d_P_pageOfNode_34 rfl rfl ?_
    refine v_get hX (1000 + i) (v := .int ((hN.2 i hi).2.2.choose_spec.choose_spec.choose)) inT0 (hN.2 i hi).1 (hN.2 i hi).2.1 (hN.2 i hi).2.2.choose_spec.choose_spec.choose_spec.choose_spec rfl 10 (by decide) fl_P_206 rfl rfl d_P_pageOfNode_35 ?_
    refine c_V hX ts (rest := []) hl (c_T_pageFrom hI hts ((hN.2 i hi).2.2.choose_spec.choose_spec.choose)) ml_P_209 im_T_pageFrom se_T_pageFrom in_T cd_T_pageFrom rfl q_T_pageFrom ⟨(Nat.le_of_ble_eq_true rfl), (Nat.le_of_ble_eq_true rfl)⟩ (hI.sheet hts).1 (hI.sheet hts).2.1 (hI.sheet hts).2.2 rfl rfl rfl rfl (Nat.le_of_ble_eq_true rfl) d_P_pageOfNode_38 ⟨by have a := hP.2; have b := hx; show _ + (120 + (2663816 - Phi rs) / 16) ≤ 120 + (2663816 - Phi rs) / 16; omega, by have a := hP.1; have b := hx; show _ + (700000 + (2663816 - Phi rs)) ≤ 700000 + (2663816 - Phi rs); omega⟩ (fun rv d2 lo2 va2 kc ns hp => ?_)
    obtain ⟨⟨v2, rfl⟩, rfl, rfl, rfl, rfl, rfl⟩ := hp
    show V X D CL A _ _ _ _ _ _ _ (.int v2 :: [])
    exact v_iret hX hE d_P_pageOfNode_41 (by have a := hP.2; have b := hx; show _ ≤ 120 + (2663816 - Phi rs) / 16; omega) (by have a := hP.1; have b := hx; show _ ≤ 700000 + (2663816 - Phi rs); omega) ⟨⟨_, rfl⟩, rfl, rfl, rfl, rfl, rfl⟩
  · have ht_j1 : j1 < n := Nat.lt_trans (hU.1 i j1 hi hq1) hi
    refine v_ifnull hX (some (ob (1000 + j1))) d_P_pageOfNode_6 (tgt := 30) (by decide) (fun h => nomatch h) (fun _ _ => ?_)
    refine v_aload_n hX d_P_pageOfNode_9 rfl rfl ?_
    refine c_V hX (1000 + i) (rest := []) hl (c_N_isInline2 hN hT hi) ml_P_203 im_N_isInline se_N_isInline in_N cd_N_isInline rfl q_N_isInline ⟨(Nat.le_of_ble_eq_true rfl), (Nat.le_of_ble_eq_true rfl)⟩ (hN.2 i hi).1 (hN.2 i hi).2.1 (hN.2 i hi).2.2.choose_spec.choose_spec.choose_spec.choose_spec rfl rfl rfl rfl (Nat.le_of_ble_eq_true rfl) d_P_pageOfNode_10 ⟨by have a := hP.2; have b := hx; show _ + 0 ≤ 120 + (2663816 - Phi rs) / 16; omega, by have a := hP.1; have b := hx; show _ + 0 ≤ 700000 + (2663816 - Phi rs); omega⟩ (fun rv d2 lo2 va2 kc ns hp => ?_)
    obtain ⟨rfl, rfl, rfl, rfl, rfl, rfl⟩ := hp
    show V X D CL A _ _ _ _ _ _ _ (.int (oneOf (tK T i) 1792) :: [])
    refine v_if_eq hX d_P_pageOfNode_13 (tgt := 30) (by decide) (fun c13 => ?_) (fun c13 => ?_)
    · refine v_aload_n hX d_P_pageOfNode_30 rfl rfl ?_
      refine v_get hX 0 (v := .ref (ob ts)) inT4 hD.1.1 hD.1.2.1 hD.1.2.2 rfl 6 (by decide) fl_P_25 rfl rfl d_P_pageOfNode_31 ?_
      refine v_aload_n hX d_P_pageOfNode_34 rfl rfl ?_
      refine v_get hX (1000 + i) (v := .int ((hN.2 i hi).2.2.choose_spec.choose_spec.choose)) inT0 (hN.2 i hi).1 (hN.2 i hi).2.1 (hN.2 i hi).2.2.choose_spec.choose_spec.choose_spec.choose_spec rfl 10 (by decide) fl_P_206 rfl rfl d_P_pageOfNode_35 ?_
      refine c_V hX ts (rest := []) hl (c_T_pageFrom hI hts ((hN.2 i hi).2.2.choose_spec.choose_spec.choose)) ml_P_209 im_T_pageFrom se_T_pageFrom in_T cd_T_pageFrom rfl q_T_pageFrom ⟨(Nat.le_of_ble_eq_true rfl), (Nat.le_of_ble_eq_true rfl)⟩ (hI.sheet hts).1 (hI.sheet hts).2.1 (hI.sheet hts).2.2 rfl rfl rfl rfl (Nat.le_of_ble_eq_true rfl) d_P_pageOfNode_38 ⟨by have a := hP.2; have b := hx; show _ + (120 + (2663816 - Phi rs) / 16) ≤ 120 + (2663816 - Phi rs) / 16; omega, by have a := hP.1; have b := hx; show _ + (700000 + (2663816 - Phi rs)) ≤ 700000 + (2663816 - Phi rs); omega⟩ (fun rv d2 lo2 va2 kc ns hp => ?_)
      obtain ⟨⟨v3, rfl⟩, rfl, rfl, rfl, rfl, rfl⟩ := hp
      show V X D CL A _ _ _ _ _ _ _ (.int v3 :: [])
      exact v_iret hX hE d_P_pageOfNode_41 (by have a := hP.2; have b := hx; show _ ≤ 120 + (2663816 - Phi rs) / 16; omega) (by have a := hP.1; have b := hx; show _ ≤ 700000 + (2663816 - Phi rs); omega) ⟨⟨_, rfl⟩, rfl, rfl, rfl, rfl, rfl⟩
    · refine v_aload_n hX d_P_pageOfNode_16 rfl rfl ?_
      refine v_get hX (1000 + j1) (v := .int (tK T j1)) inT0 (hN.2 j1 ht_j1).1 (hN.2 j1 ht_j1).2.1 (hN.2 j1 ht_j1).2.2.choose_spec.choose_spec.choose_spec.choose_spec rfl 1 (by decide) fl_P_109 rfl rfl d_P_pageOfNode_17 ?_
      refine v_bipush (v := 7) hX d_P_pageOfNode_20 (by decide) ?_
      refine v_icmp_eq hX d_P_pageOfNode_22 (tgt := 30) (by decide) (fun c22 => ?_) (fun c22 => ?_)
      · refine v_aload_n hX d_P_pageOfNode_30 rfl rfl ?_
        refine v_get hX 0 (v := .ref (ob ts)) inT4 hD.1.1 hD.1.2.1 hD.1.2.2 rfl 6 (by decide) fl_P_25 rfl rfl d_P_pageOfNode_31 ?_
        refine v_aload_n hX d_P_pageOfNode_34 rfl rfl ?_
        refine v_get hX (1000 + i) (v := .int ((hN.2 i hi).2.2.choose_spec.choose_spec.choose)) inT0 (hN.2 i hi).1 (hN.2 i hi).2.1 (hN.2 i hi).2.2.choose_spec.choose_spec.choose_spec.choose_spec rfl 10 (by decide) fl_P_206 rfl rfl d_P_pageOfNode_35 ?_
        refine c_V hX ts (rest := []) hl (c_T_pageFrom hI hts ((hN.2 i hi).2.2.choose_spec.choose_spec.choose)) ml_P_209 im_T_pageFrom se_T_pageFrom in_T cd_T_pageFrom rfl q_T_pageFrom ⟨(Nat.le_of_ble_eq_true rfl), (Nat.le_of_ble_eq_true rfl)⟩ (hI.sheet hts).1 (hI.sheet hts).2.1 (hI.sheet hts).2.2 rfl rfl rfl rfl (Nat.le_of_ble_eq_true rfl) d_P_pageOfNode_38 ⟨by have a := hP.2; have b := hx; show _ + (120 + (2663816 - Phi rs) / 16) ≤ 120 + (2663816 - Phi rs) / 16; omega, by have a := hP.1; have b := hx; show _ + (700000 + (2663816 - Phi rs)) ≤ 700000 + (2663816 - Phi rs); omega⟩ (fun rv d2 lo2 va2 kc ns hp => ?_)
        obtain ⟨⟨v4, rfl⟩, rfl, rfl, rfl, rfl, rfl⟩ := hp
        show V X D CL A _ _ _ _ _ _ _ (.int v4 :: [])
        exact v_iret hX hE d_P_pageOfNode_41 (by have a := hP.2; have b := hx; show _ ≤ 120 + (2663816 - Phi rs) / 16; omega) (by have a := hP.1; have b := hx; show _ ≤ 700000 + (2663816 - Phi rs); omega) ⟨⟨_, rfl⟩, rfl, rfl, rfl, rfl, rfl⟩
      · refine v_aload_n hX d_P_pageOfNode_25 rfl rfl ?_
        refine v_get hX (1000 + j1) (v := .int ((hN.2 j1 ht_j1).2.2.choose_spec.choose_spec.choose_spec.choose)) inT0 (hN.2 j1 ht_j1).1 (hN.2 j1 ht_j1).2.1 (hN.2 j1 ht_j1).2.2.choose_spec.choose_spec.choose_spec.choose_spec rfl 11 (by decide) fl_P_183 rfl rfl d_P_pageOfNode_26 ?_
        exact v_iret hX hE d_P_pageOfNode_29 (by have a := hP.2; have b := hx; show _ ≤ 120 + (2663816 - Phi rs) / 16; omega) (by have a := hP.1; have b := hx; show _ ≤ 700000 + (2663816 - Phi rs); omega) ⟨⟨_, rfl⟩, rfl, rfl, rfl, rfl, rfl⟩
set_option maxHeartbeats 4000000 in
set_option maxRecDepth 100000 in
theorem c_P_placeNodes {l : Launch} {D : va_G} {A : Nat → Prop} {cI cB cZ cJ cN : ClassId} {ob : Nat → Nat} {td : Nat} {rs : RS} {sh : Nat → Int32 × Int32 × Int32} {T : TR} {n ha ch ts : Nat} {hp : Int32} {dom : Nat → Prop} {loc : Nat → Nat} {val : Nat → va_E} (hI : LayI cI ob td rs sh dom loc val) (hN : NodesI ob T n dom loc val) (hD : DeskI cN ob n ha ch ts hp dom loc val) (hU : TreeU T n) (hha : ha < n) (hts : ts = 5 ∨ ts = 30) (hT : TreeI T n) : kM l y_P_placeNodes (Cond.code y_P_placeNodes b_P_placeNodes 3 none :: TT) (rmP 4 (Phi rs)) D CL (TY cI cB cZ cJ cN) A [.ref (ob 0)] dom loc val (fun rv d lo va kc ns => rv = none ∧ dom = d ∧ loc = lo ∧ kc = 0 ∧ ns = 0 ∧ frC loc val lo va ∧ LayI cI ob td rs sh dom lo va ∧ NodesI ob T n dom lo va ∧ (DeskI cN ob n ha ch ts hp dom lo va)) := by
  refine kM_of (lv0 := [some (.ref (ob 0)), none, none]) (own := "ProsePages") (by decide) rfl (List.forall_mem_cons.mpr ⟨rfl, fun _ h => nomatch h⟩) (Nat.le_of_ble_eq_true rfl) rfl (Nat.le_of_ble_eq_true rfl) (fun X hl hX hE hin0 => ?_)
  have hP : pay rs rs 0 0 := pay.rf
  have hx : Phi rs ≤ 2663816 := hI.1.phi
  have hn3 := hN.1
  refine v_iconst (v := 0) hX d_P_placeNodes_0 (by decide) ?_
  refine v_istore_n (lv' := [some (.ref (ob 0)), some (.int 0), none]) hX d_P_placeNodes_1 rfl (Nat.le_of_ble_eq_true rfl) rfl ?_
  have loop : ∀ (m9 k : Nat) (o2 : Option Value) (vaL : Nat → va_E), n - k < m9 → LayI cI ob td rs sh dom loc vaL → NodesI ob T n dom loc vaL → DeskI cN ob n ha ch ts hp dom loc vaL → frC loc val loc vaL → k ≤ n → V X D CL A dom loc vaL 0 0 2 [some (.ref (ob 0)), some (.int (nI k)), o2] [] := by
    intro m9
    induction m9 with
    | zero => intro k o2 vaL hk; exact absurd hk (Nat.not_lt_zero _)
    | succ m9 ih =>
      intro k o2 vaL hk hIL hNL hDL hfL hkn
      refine v_iload_n hX d_P_placeNodes_2 rfl rfl ?_
      refine v_aload_n hX d_P_placeNodes_3 rfl rfl ?_
      refine v_get hX 0 (v := .int (nI n)) inT4 hDL.1.1 hDL.1.2.1 hDL.1.2.2 rfl 4 (by decide) fl_P_39 rfl rfl d_P_placeNodes_4 ?_
      refine v_icmp_ge hX d_P_placeNodes_7 (tgt := 35) (by decide) (fun c7 => ?_) (fun c7 => ?_)
      · have f7 : n ≤ k := (nI_leI (a := n) (b := k) (by omega) (by omega)).mp c7
        exact v_vret hX hE d_P_placeNodes_35 (by have a := hP.2; have b := hx; show _ ≤ 120 + (2663816 - Phi rs) / 16; omega) (by have a := hP.1; have b := hx; show _ ≤ 700000 + (2663816 - Phi rs); omega) ⟨rfl, rfl, rfl, rfl, rfl, hfL, hIL, hNL, hDL⟩
      · have f7 : ¬ n ≤ k := fun z => c7 ((nI_leI (a := n) (b := k) (by omega) (by omega)).mpr z)
        refine v_aload_n hX d_P_placeNodes_10 rfl rfl ?_
        refine v_iload_n hX d_P_placeNodes_11 rfl rfl ?_
        refine c_V hX 0 (rest := []) hl (c_P_nodeAt hIL hNL hDL hU hha hts (nI k)) ml_P_179 im_P_nodeAt se_P_nodeAt in_P cd_P_nodeAt rfl q_P_nodeAt ⟨(Nat.le_of_ble_eq_true rfl), (Nat.le_of_ble_eq_true rfl)⟩ hDL.1.1 hDL.1.2.1 hDL.1.2.2 rfl rfl rfl rfl (Nat.le_of_ble_eq_true rfl) d_P_placeNodes_12 ⟨by have a := hP.2; have b := hx; show _ + (120 + (2663816 - Phi rs) / 16) ≤ 120 + (2663816 - Phi rs) / 16; omega, by have a := hP.1; have b := hx; show _ + (700000 + (2663816 - Phi rs)) ≤ 700000 + (2663816 - Phi rs); omega⟩ (fun rv d2 lo2 va2 kc ns hp => ?_)
        obtain ⟨⟨on1, ho1, rfl⟩, rfl, rfl, rfl, rfl, rfl⟩ := hp
        show V X D CL A _ _ _ _ _ _ _ (orf ob on1 :: [])
        refine v_astore_nQ (lv' := [some (.ref (ob 0)), some (.int (nI k)), some (orf ob on1)]) hX (on1.map (fun i => ob (1000 + i))) d_P_placeNodes_15 rfl (Nat.le_of_ble_eq_true rfl) rfl ?_
        refine v_aload_nQ hX (on1.map (fun i => ob (1000 + i))) d_P_placeNodes_16 rfl rfl ?_
        rcases hq2 : on1 with _ | j2
        · refine v_ifnull hX none d_P_placeNodes_17 (tgt := 29) (by decide) (fun _ => ?_) (fun _ h => nomatch h)
          refine v_iinc (y := ((nI k) + 1)) (lv' := [some (.ref (ob 0)), some (.int ((nI k) + 1)), some (.null)]) hX d_P_placeNodes_29 rfl (by rfl) rfl ?_
          refine v_goto hX d_P_placeNodes_32 (tgt := 2) (by decide) ?_
          rw [show nI k + 1 = nI (k + 1) from nI_1 k]
          exact ih (k + 1) (some (.null)) vaL (by omega) hIL hNL hDL hfL (by omega)
        · have ht_j2 := ho1 j2 hq2
          refine v_ifnull hX (some (ob (1000 + j2))) d_P_placeNodes_17 (tgt := 29) (by decide) (fun h => nomatch h) (fun _ _ => ?_)
          refine v_aload_n hX d_P_placeNodes_20 rfl rfl ?_
          refine v_aload_n hX d_P_placeNodes_21 rfl rfl ?_
          refine v_aload_n hX d_P_placeNodes_22 rfl rfl ?_
          refine c_V hX 0 (rest := [.ref (ob (1000 + j2))]) hl (c_P_pageOf hIL hNL hDL hU hha hts hT ht_j2) ml_P_199 im_P_pageOfNode se_P_pageOfNode in_P cd_P_pageOfNode rfl q_P_pageOfNode ⟨(Nat.le_of_ble_eq_true rfl), (Nat.le_of_ble_eq_true rfl)⟩ hDL.1.1 hDL.1.2.1 hDL.1.2.2 rfl rfl rfl rfl (Nat.le_of_ble_eq_true rfl) d_P_placeNodes_23 ⟨by have a := hP.2; have b := hx; show _ + (120 + (2663816 - Phi rs) / 16) ≤ 120 + (2663816 - Phi rs) / 16; omega, by have a := hP.1; have b := hx; show _ + (700000 + (2663816 - Phi rs)) ≤ 700000 + (2663816 - Phi rs); omega⟩ (fun rv d2 lo2 va2 kc ns hp => ?_)
          obtain ⟨⟨v3, rfl⟩, rfl, rfl, rfl, rfl, rfl⟩ := hp
          show V X D CL A _ _ _ _ _ _ _ (.int v3 :: [.ref (ob (1000 + j2))])
          refine v_nPage hX hNL ht_j2 (x := v3) fl_P_183 d_P_placeNodes_26 (fun va4 hva4 hN4 hf4 => ?_)
          have hI4 : LayI cI ob td rs sh dom loc va4 := by obtain ⟨e9, h9⟩ := hva4; rw [h9]; exact hIL.oth (Or.inr (by omega)) e9
          have hD4 := hDL.frN hf4
          refine v_iinc (y := ((nI k) + 1)) (lv' := [some (.ref (ob 0)), some (.int ((nI k) + 1)), some (.ref (ob (1000 + j2)))]) hX d_P_placeNodes_29 rfl (by rfl) rfl ?_
          refine v_goto hX d_P_placeNodes_32 (tgt := 2) (by decide) ?_
          rw [show nI k + 1 = nI (k + 1) from nI_1 k]
          exact ih (k + 1) (some (.ref (ob (1000 + j2)))) va4 (by omega) hI4 hN4 hD4 (hfL.trans hf4.toC) (by omega)
  exact loop _ 0 none val (Nat.lt_succ_self _) hI hN hD frC.rf (Nat.zero_le _)
