set_option maxHeartbeats 4000000 in
set_option maxRecDepth 100000 in
theorem c_P_addChars {l : Launch} {D : va_G} {A : Nat → Prop} {cI cB cZ cJ cN : ClassId} {ob : Nat → Nat} {td : Nat} {rs : RS} {sh : Nat → Int32 × Int32 × Int32} {T : TR} {n ha ch ts : Nat} {hp : Int32} {dom : Nat → Prop} {loc : Nat → Nat} {val : Nat → va_E} (hI : LayI cI ob td rs sh dom loc val) (hN : NodesI ob T n dom loc val) (hD : DeskI cN ob n ha ch ts hp dom loc val) (hU : TreeU T n) (hha : ha < n) (hts : ts = 5 ∨ ts = 30) (x0 x1 x2 x3 : Int32) {nn : Nat} (hnn : 1 ≤ nn ∧ nn ≤ 4) (htl : (rs 3).1 ≤ 4300) : kM l y_P_addCharacters (Cond.code y_P_addCharacters b_P_addCharacters 6 none :: TT) (rmP 2 (Phi rs)) D CL (TY cI cB cZ cJ cN) A [.ref (ob 0), .int x0, .int x1, .int x2, .int x3, .int (nI nn)] dom loc val (fun rv d lo va kc ns => rv = none ∧ dom = d ∧ frC loc val lo va ∧ (∃ rs2, LayI cI ob td rs2 sh dom lo va ∧ (rs2 3).1 = (rs 3).1 + nn ∧ (∀ j, j ≠ 3 → rs2 j = rs j) ∧ pay rs rs2 kc ns) ∧ NodesI ob T n dom lo va ∧ DeskI cN ob n ha (ch + nn) ts hp dom lo va) := by
  refine kM_of (lv0 := [some (.ref (ob 0)), some (.int x0), some (.int x1), some (.int x2), some (.int x3), some (.int (nI nn))]) (own := "ProsePages") (by decide) rfl (List.forall_mem_cons.mpr ⟨rfl, List.forall_mem_cons.mpr ⟨rfl, List.forall_mem_cons.mpr ⟨rfl, List.forall_mem_cons.mpr ⟨rfl, List.forall_mem_cons.mpr ⟨rfl, List.forall_mem_cons.mpr ⟨rfl, fun _ h => nomatch h⟩⟩⟩⟩⟩⟩) (Nat.le_of_ble_eq_true rfl) rfl (Nat.le_of_ble_eq_true rfl) (fun X hl hX hE hin0 => ?_)
  have hP : pay rs rs 0 0 := pay.rf
  have hx : Phi rs ≤ 2663816 := hI.1.phi
  have hn3 := hN.1
  have h4 : nn = 1 ∨ nn = 2 ∨ nn = 3 ∨ nn = 4 := by omega
  rcases h4 with rfl | rfl | rfl | rfl
  · refine v_aload_n hX d_P_addCharacters_0 rfl rfl ?_
    refine v_get hX 0 (v := .ref (ob 2)) inT4 hD.1.1 hD.1.2.1 hD.1.2.2 rfl 1 (by decide) fl_P_18 rfl rfl d_P_addCharacters_1 ?_
    refine v_get hX 2 (v := .ref (ob 3)) inT2 hI.2.2.2.1.1 hI.2.2.2.1.2.1 hI.2.2.2.1.2.2 rfl 0 (by decide) fl_P_73 rfl rfl d_P_addCharacters_4 ?_
    refine v_iload_n hX d_P_addCharacters_7 rfl rfl ?_
    refine v_sipush (v := 255) hX d_P_addCharacters_8 (by decide) ?_
    refine v_iand hX d_P_addCharacters_11 ?_
    refine c_V hX 3 (rest := []) hl (L_add hI 3 (by decide) (x0 &&& 255) (by have a : (rs 3).1 = (rs 3).1 := rfl; have b : mxOf 3 = 4400 := rfl; omega)) ml_P_77 im_R_add se_R_add in_R cd_R_add rfl q_R_add ⟨(Nat.le_of_ble_eq_true rfl), (Nat.le_of_ble_eq_true rfl)⟩ (hI.1.1 3 (by decide)).1 (hI.1.1 3 (by decide)).2.2.1 (hI.1.1 3 (by decide)).2.2.2.1.v rfl rfl rfl rfl (Nat.le_of_ble_eq_true rfl) d_P_addCharacters_12 ⟨by have a := hP.2; have b := hx; show _ + 20 ≤ 120 + (2663816 - Phi rs) / 16; omega, by have a := hP.1; have b := hx; show _ + 700000 ≤ 700000 + (2663816 - Phi rs); omega⟩ (fun rv d2 lo1 va1 kc1 ns1 hp => ?_)
    obtain ⟨rfl, rfl, ⟨rs1, hI1, hs1, ho1, hp1⟩, hf1⟩ := hp
    show V X D CL A _ _ _ _ _ _ _ []
    have hP1 : pay rs rs1 (0 + kc1) (0 + ns1) := ⟨by have a := hP.1; have b := hp1.1; omega, by have a := hP.2; have b := hp1.2; omega⟩
    have hx1 : Phi rs1 ≤ 2663816 := hI1.1.phi
    have hN1 := hN.fr hf1
    have hD1 := hD.frL hf1
    refine v_iload hX d_P_addCharacters_15 rfl ?_
    refine v_iconst (v := 1) hX d_P_addCharacters_17 (by decide) ?_
    refine v_icmp_le hX d_P_addCharacters_18 (tgt := 36) (by decide) (fun _ => ?_) (fun c => absurd (by decide) c)
    refine v_iload hX d_P_addCharacters_36 rfl ?_
    refine v_iconst (v := 2) hX d_P_addCharacters_38 (by decide) ?_
    refine v_icmp_le hX d_P_addCharacters_39 (tgt := 57) (by decide) (fun _ => ?_) (fun c => absurd (by decide) c)
    refine v_iload hX d_P_addCharacters_57 rfl ?_
    refine v_iconst (v := 3) hX d_P_addCharacters_59 (by decide) ?_
    refine v_icmp_le hX d_P_addCharacters_60 (tgt := 79) (by decide) (fun _ => ?_) (fun c => absurd (by decide) c)
    refine v_aload_n hX d_P_addCharacters_79 rfl rfl ?_
    refine v_dup hX d_P_addCharacters_80 rfl ?_
    refine v_get hX 0 (v := .int (nI ch)) inT4 hD1.1.1 hD1.1.2.1 hD1.1.2.2 rfl 5 (by decide) fl_P_101 rfl rfl d_P_addCharacters_81 ?_
    refine v_iload hX d_P_addCharacters_84 rfl ?_
    refine v_iaddE (v := nI (ch + 1)) hX d_P_addCharacters_86 (nI_add ch 1) ?_
    refine v_desk hX hI1 hN1 hD1 5 (v := .int (nI (ch + 1))) (ha2 := ha) (ch2 := (ch + 1)) (ts2 := ts) (hp2 := hp) (by decide) fl_P_101 rfl rfl rfl rfl d_P_addCharacters_87 rfl (fun va2 hI2 hN2 hD2 hf2 => ?_)
    exact v_vret hX hE d_P_addCharacters_90 (by have a := hP1.2; have b := hx1; show _ ≤ 120 + (2663816 - Phi rs) / 16; omega) (by have a := hP1.1; have b := hx1; show _ ≤ 700000 + (2663816 - Phi rs); omega) ⟨rfl, rfl, ((frC.rf.trans hf1.toC).trans hf2), ⟨rs1, hI2, (by have a : (rs1 3).1 = ((rs 3).1 + 1) := (eq_add1 hs1 rfl); omega), (fun j hj => ((ho1 j hj).trans rfl)), ⟨by have a := hP1.1; omega, by have a := hP1.2; omega⟩⟩, hN2, hD2⟩
  · refine v_aload_n hX d_P_addCharacters_0 rfl rfl ?_
    refine v_get hX 0 (v := .ref (ob 2)) inT4 hD.1.1 hD.1.2.1 hD.1.2.2 rfl 1 (by decide) fl_P_18 rfl rfl d_P_addCharacters_1 ?_
    refine v_get hX 2 (v := .ref (ob 3)) inT2 hI.2.2.2.1.1 hI.2.2.2.1.2.1 hI.2.2.2.1.2.2 rfl 0 (by decide) fl_P_73 rfl rfl d_P_addCharacters_4 ?_
    refine v_iload_n hX d_P_addCharacters_7 rfl rfl ?_
    refine v_sipush (v := 255) hX d_P_addCharacters_8 (by decide) ?_
    refine v_iand hX d_P_addCharacters_11 ?_
    refine c_V hX 3 (rest := []) hl (L_add hI 3 (by decide) (x0 &&& 255) (by have a : (rs 3).1 = (rs 3).1 := rfl; have b : mxOf 3 = 4400 := rfl; omega)) ml_P_77 im_R_add se_R_add in_R cd_R_add rfl q_R_add ⟨(Nat.le_of_ble_eq_true rfl), (Nat.le_of_ble_eq_true rfl)⟩ (hI.1.1 3 (by decide)).1 (hI.1.1 3 (by decide)).2.2.1 (hI.1.1 3 (by decide)).2.2.2.1.v rfl rfl rfl rfl (Nat.le_of_ble_eq_true rfl) d_P_addCharacters_12 ⟨by have a := hP.2; have b := hx; show _ + 20 ≤ 120 + (2663816 - Phi rs) / 16; omega, by have a := hP.1; have b := hx; show _ + 700000 ≤ 700000 + (2663816 - Phi rs); omega⟩ (fun rv d2 lo3 va3 kc3 ns3 hp => ?_)
    obtain ⟨rfl, rfl, ⟨rs3, hI3, hs3, ho3, hp3⟩, hf3⟩ := hp
    show V X D CL A _ _ _ _ _ _ _ []
    have hP3 : pay rs rs3 (0 + kc3) (0 + ns3) := ⟨by have a := hP.1; have b := hp3.1; omega, by have a := hP.2; have b := hp3.2; omega⟩
    have hx3 : Phi rs3 ≤ 2663816 := hI3.1.phi
    have hN3 := hN.fr hf3
    have hD3 := hD.frL hf3
    refine v_iload hX d_P_addCharacters_15 rfl ?_
    refine v_iconst (v := 1) hX d_P_addCharacters_17 (by decide) ?_
    refine v_icmp_le hX d_P_addCharacters_18 (tgt := 36) (by decide) (fun c => absurd c (by decide)) (fun _ => ?_)
    refine v_aload_n hX d_P_addCharacters_21 rfl rfl ?_
    refine v_get hX 0 (v := .ref (ob 2)) inT4 hD3.1.1 hD3.1.2.1 hD3.1.2.2 rfl 1 (by decide) fl_P_18 rfl rfl d_P_addCharacters_22 ?_
    refine v_get hX 2 (v := .ref (ob 3)) inT2 hI3.2.2.2.1.1 hI3.2.2.2.1.2.1 hI3.2.2.2.1.2.2 rfl 0 (by decide) fl_P_73 rfl rfl d_P_addCharacters_25 ?_
    refine v_iload_n hX d_P_addCharacters_28 rfl rfl ?_
    refine v_sipush (v := 255) hX d_P_addCharacters_29 (by decide) ?_
    refine v_iand hX d_P_addCharacters_32 ?_
    refine c_V hX 3 (rest := []) hl (L_add hI3 3 (by decide) (x1 &&& 255) (by have a : (rs3 3).1 = ((rs 3).1 + 1) := (eq_add1 hs3 rfl); have b : mxOf 3 = 4400 := rfl; omega)) ml_P_77 im_R_add se_R_add in_R cd_R_add rfl q_R_add ⟨(Nat.le_of_ble_eq_true rfl), (Nat.le_of_ble_eq_true rfl)⟩ (hI3.1.1 3 (by decide)).1 (hI3.1.1 3 (by decide)).2.2.1 (hI3.1.1 3 (by decide)).2.2.2.1.v rfl rfl rfl rfl (Nat.le_of_ble_eq_true rfl) d_P_addCharacters_33 ⟨by have a := hP3.2; have b := hx3; show _ + 20 ≤ 120 + (2663816 - Phi rs) / 16; omega, by have a := hP3.1; have b := hx3; show _ + 700000 ≤ 700000 + (2663816 - Phi rs); omega⟩ (fun rv d2 lo4 va4 kc4 ns4 hp => ?_)
    obtain ⟨rfl, rfl, ⟨rs4, hI4, hs4, ho4, hp4⟩, hf4⟩ := hp
    show V X D CL A _ _ _ _ _ _ _ []
    have hP4 : pay rs rs4 (0 + kc3 + kc4) (0 + ns3 + ns4) := ⟨by have a := hP3.1; have b := hp4.1; omega, by have a := hP3.2; have b := hp4.2; omega⟩
    have hx4 : Phi rs4 ≤ 2663816 := hI4.1.phi
    have hN4 := hN3.fr hf4
    have hD4 := hD3.frL hf4
    refine v_iload hX d_P_addCharacters_36 rfl ?_
    refine v_iconst (v := 2) hX d_P_addCharacters_38 (by decide) ?_
    refine v_icmp_le hX d_P_addCharacters_39 (tgt := 57) (by decide) (fun _ => ?_) (fun c => absurd (by decide) c)
    refine v_iload hX d_P_addCharacters_57 rfl ?_
    refine v_iconst (v := 3) hX d_P_addCharacters_59 (by decide) ?_
    refine v_icmp_le hX d_P_addCharacters_60 (tgt := 79) (by decide) (fun _ => ?_) (fun c => absurd (by decide) c)
    refine v_aload_n hX d_P_addCharacters_79 rfl rfl ?_
    refine v_dup hX d_P_addCharacters_80 rfl ?_
    refine v_get hX 0 (v := .int (nI ch)) inT4 hD4.1.1 hD4.1.2.1 hD4.1.2.2 rfl 5 (by decide) fl_P_101 rfl rfl d_P_addCharacters_81 ?_
    refine v_iload hX d_P_addCharacters_84 rfl ?_
    refine v_iaddE (v := nI (ch + 2)) hX d_P_addCharacters_86 (nI_add ch 2) ?_
    refine v_desk hX hI4 hN4 hD4 5 (v := .int (nI (ch + 2))) (ha2 := ha) (ch2 := (ch + 2)) (ts2 := ts) (hp2 := hp) (by decide) fl_P_101 rfl rfl rfl rfl d_P_addCharacters_87 rfl (fun va5 hI5 hN5 hD5 hf5 => ?_)
    exact v_vret hX hE d_P_addCharacters_90 (by have a := hP4.2; have b := hx4; show _ ≤ 120 + (2663816 - Phi rs) / 16; omega) (by have a := hP4.1; have b := hx4; show _ ≤ 700000 + (2663816 - Phi rs); omega) ⟨rfl, rfl, (((frC.rf.trans hf3.toC).trans hf4.toC).trans hf5), ⟨rs4, hI5, (by have a : (rs4 3).1 = (((rs 3).1 + 1) + 1) := (eq_add1 hs4 (eq_add1 hs3 rfl)); omega), (fun j hj => ((ho4 j hj).trans ((ho3 j hj).trans rfl))), ⟨by have a := hP4.1; omega, by have a := hP4.2; omega⟩⟩, hN5, hD5⟩
  · refine v_aload_n hX d_P_addCharacters_0 rfl rfl ?_
    refine v_get hX 0 (v := .ref (ob 2)) inT4 hD.1.1 hD.1.2.1 hD.1.2.2 rfl 1 (by decide) fl_P_18 rfl rfl d_P_addCharacters_1 ?_
    refine v_get hX 2 (v := .ref (ob 3)) inT2 hI.2.2.2.1.1 hI.2.2.2.1.2.1 hI.2.2.2.1.2.2 rfl 0 (by decide) fl_P_73 rfl rfl d_P_addCharacters_4 ?_
    refine v_iload_n hX d_P_addCharacters_7 rfl rfl ?_
    refine v_sipush (v := 255) hX d_P_addCharacters_8 (by decide) ?_
    refine v_iand hX d_P_addCharacters_11 ?_
    refine c_V hX 3 (rest := []) hl (L_add hI 3 (by decide) (x0 &&& 255) (by have a : (rs 3).1 = (rs 3).1 := rfl; have b : mxOf 3 = 4400 := rfl; omega)) ml_P_77 im_R_add se_R_add in_R cd_R_add rfl q_R_add ⟨(Nat.le_of_ble_eq_true rfl), (Nat.le_of_ble_eq_true rfl)⟩ (hI.1.1 3 (by decide)).1 (hI.1.1 3 (by decide)).2.2.1 (hI.1.1 3 (by decide)).2.2.2.1.v rfl rfl rfl rfl (Nat.le_of_ble_eq_true rfl) d_P_addCharacters_12 ⟨by have a := hP.2; have b := hx; show _ + 20 ≤ 120 + (2663816 - Phi rs) / 16; omega, by have a := hP.1; have b := hx; show _ + 700000 ≤ 700000 + (2663816 - Phi rs); omega⟩ (fun rv d2 lo6 va6 kc6 ns6 hp => ?_)
    obtain ⟨rfl, rfl, ⟨rs6, hI6, hs6, ho6, hp6⟩, hf6⟩ := hp
    show V X D CL A _ _ _ _ _ _ _ []
    have hP6 : pay rs rs6 (0 + kc6) (0 + ns6) := ⟨by have a := hP.1; have b := hp6.1; omega, by have a := hP.2; have b := hp6.2; omega⟩
    have hx6 : Phi rs6 ≤ 2663816 := hI6.1.phi
    have hN6 := hN.fr hf6
    have hD6 := hD.frL hf6
    refine v_iload hX d_P_addCharacters_15 rfl ?_
    refine v_iconst (v := 1) hX d_P_addCharacters_17 (by decide) ?_
    refine v_icmp_le hX d_P_addCharacters_18 (tgt := 36) (by decide) (fun c => absurd c (by decide)) (fun _ => ?_)
    refine v_aload_n hX d_P_addCharacters_21 rfl rfl ?_
    refine v_get hX 0 (v := .ref (ob 2)) inT4 hD6.1.1 hD6.1.2.1 hD6.1.2.2 rfl 1 (by decide) fl_P_18 rfl rfl d_P_addCharacters_22 ?_
    refine v_get hX 2 (v := .ref (ob 3)) inT2 hI6.2.2.2.1.1 hI6.2.2.2.1.2.1 hI6.2.2.2.1.2.2 rfl 0 (by decide) fl_P_73 rfl rfl d_P_addCharacters_25 ?_
    refine v_iload_n hX d_P_addCharacters_28 rfl rfl ?_
    refine v_sipush (v := 255) hX d_P_addCharacters_29 (by decide) ?_
    refine v_iand hX d_P_addCharacters_32 ?_
    refine c_V hX 3 (rest := []) hl (L_add hI6 3 (by decide) (x1 &&& 255) (by have a : (rs6 3).1 = ((rs 3).1 + 1) := (eq_add1 hs6 rfl); have b : mxOf 3 = 4400 := rfl; omega)) ml_P_77 im_R_add se_R_add in_R cd_R_add rfl q_R_add ⟨(Nat.le_of_ble_eq_true rfl), (Nat.le_of_ble_eq_true rfl)⟩ (hI6.1.1 3 (by decide)).1 (hI6.1.1 3 (by decide)).2.2.1 (hI6.1.1 3 (by decide)).2.2.2.1.v rfl rfl rfl rfl (Nat.le_of_ble_eq_true rfl) d_P_addCharacters_33 ⟨by have a := hP6.2; have b := hx6; show _ + 20 ≤ 120 + (2663816 - Phi rs) / 16; omega, by have a := hP6.1; have b := hx6; show _ + 700000 ≤ 700000 + (2663816 - Phi rs); omega⟩ (fun rv d2 lo7 va7 kc7 ns7 hp => ?_)
    obtain ⟨rfl, rfl, ⟨rs7, hI7, hs7, ho7, hp7⟩, hf7⟩ := hp
    show V X D CL A _ _ _ _ _ _ _ []
    have hP7 : pay rs rs7 (0 + kc6 + kc7) (0 + ns6 + ns7) := ⟨by have a := hP6.1; have b := hp7.1; omega, by have a := hP6.2; have b := hp7.2; omega⟩
    have hx7 : Phi rs7 ≤ 2663816 := hI7.1.phi
    have hN7 := hN6.fr hf7
    have hD7 := hD6.frL hf7
    refine v_iload hX d_P_addCharacters_36 rfl ?_
    refine v_iconst (v := 2) hX d_P_addCharacters_38 (by decide) ?_
    refine v_icmp_le hX d_P_addCharacters_39 (tgt := 57) (by decide) (fun c => absurd c (by decide)) (fun _ => ?_)
    refine v_aload_n hX d_P_addCharacters_42 rfl rfl ?_
    refine v_get hX 0 (v := .ref (ob 2)) inT4 hD7.1.1 hD7.1.2.1 hD7.1.2.2 rfl 1 (by decide) fl_P_18 rfl rfl d_P_addCharacters_43 ?_
    refine v_get hX 2 (v := .ref (ob 3)) inT2 hI7.2.2.2.1.1 hI7.2.2.2.1.2.1 hI7.2.2.2.1.2.2 rfl 0 (by decide) fl_P_73 rfl rfl d_P_addCharacters_46 ?_
    refine v_iload_n hX d_P_addCharacters_49 rfl rfl ?_
    refine v_sipush (v := 255) hX d_P_addCharacters_50 (by decide) ?_
    refine v_iand hX d_P_addCharacters_53 ?_
    refine c_V hX 3 (rest := []) hl (L_add hI7 3 (by decide) (x2 &&& 255) (by have a : (rs7 3).1 = (((rs 3).1 + 1) + 1) := (eq_add1 hs7 (eq_add1 hs6 rfl)); have b : mxOf 3 = 4400 := rfl; omega)) ml_P_77 im_R_add se_R_add in_R cd_R_add rfl q_R_add ⟨(Nat.le_of_ble_eq_true rfl), (Nat.le_of_ble_eq_true rfl)⟩ (hI7.1.1 3 (by decide)).1 (hI7.1.1 3 (by decide)).2.2.1 (hI7.1.1 3 (by decide)).2.2.2.1.v rfl rfl rfl rfl (Nat.le_of_ble_eq_true rfl) d_P_addCharacters_54 ⟨by have a := hP7.2; have b := hx7; show _ + 20 ≤ 120 + (2663816 - Phi rs) / 16; omega, by have a := hP7.1; have b := hx7; show _ + 700000 ≤ 700000 + (2663816 - Phi rs); omega⟩ (fun rv d2 lo8 va8 kc8 ns8 hp => ?_)
    obtain ⟨rfl, rfl, ⟨rs8, hI8, hs8, ho8, hp8⟩, hf8⟩ := hp
    show V X D CL A _ _ _ _ _ _ _ []
    have hP8 : pay rs rs8 (0 + kc6 + kc7 + kc8) (0 + ns6 + ns7 + ns8) := ⟨by have a := hP7.1; have b := hp8.1; omega, by have a := hP7.2; have b := hp8.2; omega⟩
    have hx8 : Phi rs8 ≤ 2663816 := hI8.1.phi
    have hN8 := hN7.fr hf8
    have hD8 := hD7.frL hf8
    refine v_iload hX d_P_addCharacters_57 rfl ?_
    refine v_iconst (v := 3) hX d_P_addCharacters_59 (by decide) ?_
    refine v_icmp_le hX d_P_addCharacters_60 (tgt := 79) (by decide) (fun _ => ?_) (fun c => absurd (by decide) c)
    refine v_aload_n hX d_P_addCharacters_79 rfl rfl ?_
    refine v_dup hX d_P_addCharacters_80 rfl ?_
    refine v_get hX 0 (v := .int (nI ch)) inT4 hD8.1.1 hD8.1.2.1 hD8.1.2.2 rfl 5 (by decide) fl_P_101 rfl rfl d_P_addCharacters_81 ?_
    refine v_iload hX d_P_addCharacters_84 rfl ?_
    refine v_iaddE (v := nI (ch + 3)) hX d_P_addCharacters_86 (nI_add ch 3) ?_
    refine v_desk hX hI8 hN8 hD8 5 (v := .int (nI (ch + 3))) (ha2 := ha) (ch2 := (ch + 3)) (ts2 := ts) (hp2 := hp) (by decide) fl_P_101 rfl rfl rfl rfl d_P_addCharacters_87 rfl (fun va9 hI9 hN9 hD9 hf9 => ?_)
    exact v_vret hX hE d_P_addCharacters_90 (by have a := hP8.2; have b := hx8; show _ ≤ 120 + (2663816 - Phi rs) / 16; omega) (by have a := hP8.1; have b := hx8; show _ ≤ 700000 + (2663816 - Phi rs); omega) ⟨rfl, rfl, ((((frC.rf.trans hf6.toC).trans hf7.toC).trans hf8.toC).trans hf9), ⟨rs8, hI9, (by have a : (rs8 3).1 = ((((rs 3).1 + 1) + 1) + 1) := (eq_add1 hs8 (eq_add1 hs7 (eq_add1 hs6 rfl))); omega), (fun j hj => ((ho8 j hj).trans ((ho7 j hj).trans ((ho6 j hj).trans rfl)))), ⟨by have a := hP8.1; omega, by have a := hP8.2; omega⟩⟩, hN9, hD9⟩
  · refine v_aload_n hX d_P_addCharacters_0 rfl rfl ?_
    refine v_get hX 0 (v := .ref (ob 2)) inT4 hD.1.1 hD.1.2.1 hD.1.2.2 rfl 1 (by decide) fl_P_18 rfl rfl d_P_addCharacters_1 ?_
    refine v_get hX 2 (v := .ref (ob 3)) inT2 hI.2.2.2.1.1 hI.2.2.2.1.2.1 hI.2.2.2.1.2.2 rfl 0 (by decide) fl_P_73 rfl rfl d_P_addCharacters_4 ?_
    refine v_iload_n hX d_P_addCharacters_7 rfl rfl ?_
    refine v_sipush (v := 255) hX d_P_addCharacters_8 (by decide) ?_
    refine v_iand hX d_P_addCharacters_11 ?_
    refine c_V hX 3 (rest := []) hl (L_add hI 3 (by decide) (x0 &&& 255) (by have a : (rs 3).1 = (rs 3).1 := rfl; have b : mxOf 3 = 4400 := rfl; omega)) ml_P_77 im_R_add se_R_add in_R cd_R_add rfl q_R_add ⟨(Nat.le_of_ble_eq_true rfl), (Nat.le_of_ble_eq_true rfl)⟩ (hI.1.1 3 (by decide)).1 (hI.1.1 3 (by decide)).2.2.1 (hI.1.1 3 (by decide)).2.2.2.1.v rfl rfl rfl rfl (Nat.le_of_ble_eq_true rfl) d_P_addCharacters_12 ⟨by have a := hP.2; have b := hx; show _ + 20 ≤ 120 + (2663816 - Phi rs) / 16; omega, by have a := hP.1; have b := hx; show _ + 700000 ≤ 700000 + (2663816 - Phi rs); omega⟩ (fun rv d2 lo10 va10 kc10 ns10 hp => ?_)
    obtain ⟨rfl, rfl, ⟨rs10, hI10, hs10, ho10, hp10⟩, hf10⟩ := hp
    show V X D CL A _ _ _ _ _ _ _ []
    have hP10 : pay rs rs10 (0 + kc10) (0 + ns10) := ⟨by have a := hP.1; have b := hp10.1; omega, by have a := hP.2; have b := hp10.2; omega⟩
    have hx10 : Phi rs10 ≤ 2663816 := hI10.1.phi
    have hN10 := hN.fr hf10
    have hD10 := hD.frL hf10
    refine v_iload hX d_P_addCharacters_15 rfl ?_
    refine v_iconst (v := 1) hX d_P_addCharacters_17 (by decide) ?_
    refine v_icmp_le hX d_P_addCharacters_18 (tgt := 36) (by decide) (fun c => absurd c (by decide)) (fun _ => ?_)
    refine v_aload_n hX d_P_addCharacters_21 rfl rfl ?_
    refine v_get hX 0 (v := .ref (ob 2)) inT4 hD10.1.1 hD10.1.2.1 hD10.1.2.2 rfl 1 (by decide) fl_P_18 rfl rfl d_P_addCharacters_22 ?_
    refine v_get hX 2 (v := .ref (ob 3)) inT2 hI10.2.2.2.1.1 hI10.2.2.2.1.2.1 hI10.2.2.2.1.2.2 rfl 0 (by decide) fl_P_73 rfl rfl d_P_addCharacters_25 ?_
    refine v_iload_n hX d_P_addCharacters_28 rfl rfl ?_
    refine v_sipush (v := 255) hX d_P_addCharacters_29 (by decide) ?_
    refine v_iand hX d_P_addCharacters_32 ?_
    refine c_V hX 3 (rest := []) hl (L_add hI10 3 (by decide) (x1 &&& 255) (by have a : (rs10 3).1 = ((rs 3).1 + 1) := (eq_add1 hs10 rfl); have b : mxOf 3 = 4400 := rfl; omega)) ml_P_77 im_R_add se_R_add in_R cd_R_add rfl q_R_add ⟨(Nat.le_of_ble_eq_true rfl), (Nat.le_of_ble_eq_true rfl)⟩ (hI10.1.1 3 (by decide)).1 (hI10.1.1 3 (by decide)).2.2.1 (hI10.1.1 3 (by decide)).2.2.2.1.v rfl rfl rfl rfl (Nat.le_of_ble_eq_true rfl) d_P_addCharacters_33 ⟨by have a := hP10.2; have b := hx10; show _ + 20 ≤ 120 + (2663816 - Phi rs) / 16; omega, by have a := hP10.1; have b := hx10; show _ + 700000 ≤ 700000 + (2663816 - Phi rs); omega⟩ (fun rv d2 lo11 va11 kc11 ns11 hp => ?_)
    obtain ⟨rfl, rfl, ⟨rs11, hI11, hs11, ho11, hp11⟩, hf11⟩ := hp
    show V X D CL A _ _ _ _ _ _ _ []
    have hP11 : pay rs rs11 (0 + kc10 + kc11) (0 + ns10 + ns11) := ⟨by have a := hP10.1; have b := hp11.1; omega, by have a := hP10.2; have b := hp11.2; omega⟩
    have hx11 : Phi rs11 ≤ 2663816 := hI11.1.phi
    have hN11 := hN10.fr hf11
    have hD11 := hD10.frL hf11
    refine v_iload hX d_P_addCharacters_36 rfl ?_
    refine v_iconst (v := 2) hX d_P_addCharacters_38 (by decide) ?_
    refine v_icmp_le hX d_P_addCharacters_39 (tgt := 57) (by decide) (fun c => absurd c (by decide)) (fun _ => ?_)
    refine v_aload_n hX d_P_addCharacters_42 rfl rfl ?_
    refine v_get hX 0 (v := .ref (ob 2)) inT4 hD11.1.1 hD11.1.2.1 hD11.1.2.2 rfl 1 (by decide) fl_P_18 rfl rfl d_P_addCharacters_43 ?_
    refine v_get hX 2 (v := .ref (ob 3)) inT2 hI11.2.2.2.1.1 hI11.2.2.2.1.2.1 hI11.2.2.2.1.2.2 rfl 0 (by decide) fl_P_73 rfl rfl d_P_addCharacters_46 ?_
    refine v_iload_n hX d_P_addCharacters_49 rfl rfl ?_
    refine v_sipush (v := 255) hX d_P_addCharacters_50 (by decide) ?_
    refine v_iand hX d_P_addCharacters_53 ?_
    refine c_V hX 3 (rest := []) hl (L_add hI11 3 (by decide) (x2 &&& 255) (by have a : (rs11 3).1 = (((rs 3).1 + 1) + 1) := (eq_add1 hs11 (eq_add1 hs10 rfl)); have b : mxOf 3 = 4400 := rfl; omega)) ml_P_77 im_R_add se_R_add in_R cd_R_add rfl q_R_add ⟨(Nat.le_of_ble_eq_true rfl), (Nat.le_of_ble_eq_true rfl)⟩ (hI11.1.1 3 (by decide)).1 (hI11.1.1 3 (by decide)).2.2.1 (hI11.1.1 3 (by decide)).2.2.2.1.v rfl rfl rfl rfl (Nat.le_of_ble_eq_true rfl) d_P_addCharacters_54 ⟨by have a := hP11.2; have b := hx11; show _ + 20 ≤ 120 + (2663816 - Phi rs) / 16; omega, by have a := hP11.1; have b := hx11; show _ + 700000 ≤ 700000 + (2663816 - Phi rs); omega⟩ (fun rv d2 lo12 va12 kc12 ns12 hp => ?_)
    obtain ⟨rfl, rfl, ⟨rs12, hI12, hs12, ho12, hp12⟩, hf12⟩ := hp
    show V X D CL A _ _ _ _ _ _ _ []
    have hP12 : pay rs rs12 (0 + kc10 + kc11 + kc12) (0 + ns10 + ns11 + ns12) := ⟨by have a := hP11.1; have b := hp12.1; omega, by have a := hP11.2; have b := hp12.2; omega⟩
    have hx12 : Phi rs12 ≤ 2663816 := hI12.1.phi
    have hN12 := hN11.fr hf12
    have hD12 := hD11.frL hf12
    refine v_iload hX d_P_addCharacters_57 rfl ?_
    refine v_iconst (v := 3) hX d_P_addCharacters_59 (by decide) ?_
    refine v_icmp_le hX d_P_addCharacters_60 (tgt := 79) (by decide) (fun c => absurd c (by decide)) (fun _ => ?_)
    refine v_aload_n hX d_P_addCharacters_63 rfl rfl ?_
    refine v_get hX 0 (v := .ref (ob 2)) inT4 hD12.1.1 hD12.1.2.1 hD12.1.2.2 rfl 1 (by decide) fl_P_18 rfl rfl d_P_addCharacters_64 ?_
    refine v_get hX 2 (v := .ref (ob 3)) inT2 hI12.2.2.2.1.1 hI12.2.2.2.1.2.1 hI12.2.2.2.1.2.2 rfl 0 (by decide) fl_P_73 rfl rfl d_P_addCharacters_67 ?_
    refine v_iload hX d_P_addCharacters_70 rfl ?_
    refine v_sipush (v := 255) hX d_P_addCharacters_72 (by decide) ?_
    refine v_iand hX d_P_addCharacters_75 ?_
    refine c_V hX 3 (rest := []) hl (L_add hI12 3 (by decide) (x3 &&& 255) (by have a : (rs12 3).1 = ((((rs 3).1 + 1) + 1) + 1) := (eq_add1 hs12 (eq_add1 hs11 (eq_add1 hs10 rfl))); have b : mxOf 3 = 4400 := rfl; omega)) ml_P_77 im_R_add se_R_add in_R cd_R_add rfl q_R_add ⟨(Nat.le_of_ble_eq_true rfl), (Nat.le_of_ble_eq_true rfl)⟩ (hI12.1.1 3 (by decide)).1 (hI12.1.1 3 (by decide)).2.2.1 (hI12.1.1 3 (by decide)).2.2.2.1.v rfl rfl rfl rfl (Nat.le_of_ble_eq_true rfl) d_P_addCharacters_76 ⟨by have a := hP12.2; have b := hx12; show _ + 20 ≤ 120 + (2663816 - Phi rs) / 16; omega, by have a := hP12.1; have b := hx12; show _ + 700000 ≤ 700000 + (2663816 - Phi rs); omega⟩ (fun rv d2 lo13 va13 kc13 ns13 hp => ?_)
    obtain ⟨rfl, rfl, ⟨rs13, hI13, hs13, ho13, hp13⟩, hf13⟩ := hp
    show V X D CL A _ _ _ _ _ _ _ []
    have hP13 : pay rs rs13 (0 + kc10 + kc11 + kc12 + kc13) (0 + ns10 + ns11 + ns12 + ns13) := ⟨by have a := hP12.1; have b := hp13.1; omega, by have a := hP12.2; have b := hp13.2; omega⟩
    have hx13 : Phi rs13 ≤ 2663816 := hI13.1.phi
    have hN13 := hN12.fr hf13
    have hD13 := hD12.frL hf13
    refine v_aload_n hX d_P_addCharacters_79 rfl rfl ?_
    refine v_dup hX d_P_addCharacters_80 rfl ?_
    refine v_get hX 0 (v := .int (nI ch)) inT4 hD13.1.1 hD13.1.2.1 hD13.1.2.2 rfl 5 (by decide) fl_P_101 rfl rfl d_P_addCharacters_81 ?_
    refine v_iload hX d_P_addCharacters_84 rfl ?_
    refine v_iaddE (v := nI (ch + 4)) hX d_P_addCharacters_86 (nI_add ch 4) ?_
    refine v_desk hX hI13 hN13 hD13 5 (v := .int (nI (ch + 4))) (ha2 := ha) (ch2 := (ch + 4)) (ts2 := ts) (hp2 := hp) (by decide) fl_P_101 rfl rfl rfl rfl d_P_addCharacters_87 rfl (fun va14 hI14 hN14 hD14 hf14 => ?_)
    exact v_vret hX hE d_P_addCharacters_90 (by have a := hP13.2; have b := hx13; show _ ≤ 120 + (2663816 - Phi rs) / 16; omega) (by have a := hP13.1; have b := hx13; show _ ≤ 700000 + (2663816 - Phi rs); omega) ⟨rfl, rfl, (((((frC.rf.trans hf10.toC).trans hf11.toC).trans hf12.toC).trans hf13.toC).trans hf14), ⟨rs13, hI14, (by have a : (rs13 3).1 = (((((rs 3).1 + 1) + 1) + 1) + 1) := (eq_add1 hs13 (eq_add1 hs12 (eq_add1 hs11 (eq_add1 hs10 rfl)))); omega), (fun j hj => ((ho13 j hj).trans ((ho12 j hj).trans ((ho11 j hj).trans ((ho10 j hj).trans rfl))))), ⟨by have a := hP13.1; omega, by have a := hP13.2; omega⟩⟩, hN14, hD14⟩
