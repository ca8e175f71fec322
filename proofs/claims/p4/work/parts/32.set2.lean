set_option maxHeartbeats 4000000 in
set_option maxRecDepth 100000 in
theorem c_S_addLetter {l : Launch} {D : va_G} {A : Nat → Prop} {cI cB cZ cJ cN : ClassId} {ob : Nat → Nat} {td w c a al nl pf tl ph : Nat} {dom : Nat → Prop} {loc : Nat → Nat} {val : Nat → va_E} (hS : LayS cI ob td w c a al nl pf tl ph dom loc val) (x : Int32) {wd : Nat} (hwd : 4 ≤ wd ∧ wd ≤ 60) (ha : a ≤ 144) (hw : w ≤ wd) (hc : c ≤ wd) : kM l y_S_addLetter (Cond.code y_S_addLetter b_S_addLetter 3 none :: TT) (rmP 4 ph) D CL (TY cI cB cZ cJ cN) A [.ref (ob 2), .int x, .int (nI wd)] dom loc val (PSw cI ob td wd a al nl pf tl ph dom loc val) := by
  refine kM_of (lv0 := [some (.ref (ob 2)), some (.int x), some (.int (nI wd))]) (own := "ProsePages$Setter") (by decide) rfl (List.forall_mem_cons.mpr ⟨rfl, List.forall_mem_cons.mpr ⟨rfl, List.forall_mem_cons.mpr ⟨rfl, fun _ h => nomatch h⟩⟩⟩) (Nat.le_of_ble_eq_true rfl) rfl (Nat.le_of_ble_eq_true rfl) (fun X hl hX hE hin0 => ?_)
  have hP : 0 + ph ≤ ph ∧ 16 * 0 + ph ≤ ph := ⟨by omega, by omega⟩
  have hx : ph ≤ 2663816 := hS.phi
  refine v_aload_n hX d_S_addLetter_0 rfl rfl ?_
  refine v_get hX 2 (v := .ref (ob 26)) inT2 hS.set.1 hS.set.2.1 hS.set.2.2 rfl 4 (by decide) fl_S_31 rfl rfl d_S_addLetter_1 ?_
  refine c_V hX 26 (rest := []) hl (S_size26 hS) ml_S_129 im_R_size se_R_size in_R cd_R_size rfl q_R_size ⟨(Nat.le_of_ble_eq_true rfl), (Nat.le_of_ble_eq_true rfl)⟩ (hS.row 26 (by decide)).1 (hS.row 26 (by decide)).2.1 (hS.row 26 (by decide)).2.2.choose_spec rfl rfl rfl rfl (Nat.le_of_ble_eq_true rfl) d_S_addLetter_4 ⟨by have a := hP.2; have b := hx; show _ + 100 ≤ 120 + (2663816 - ph) / 16; omega, by have a := hP.1; have b := hx; show _ + 200000 ≤ 700000 + (2663816 - ph); omega⟩ (fun rv d2 lo2 va2 kc ns hp => ?_)
  obtain ⟨rfl, rfl, rfl, rfl, rfl, rfl⟩ := hp
  show V X D CL A _ _ _ _ _ _ _ (.int (nI w) :: [])
  refine v_iload_n hX d_S_addLetter_7 rfl rfl ?_
  refine v_icmp_lt hX d_S_addLetter_8 (tgt := 44) (by decide) (fun c8 => ?_) (fun c8 => ?_)
  · have f8 : w < wd := (nI_ltI (a := w) (b := wd) (by omega) (by omega)).mp c8
    refine v_aload_n hX d_S_addLetter_44 rfl rfl ?_
    refine v_get hX 2 (v := .ref (ob 26)) inT2 hS.set.1 hS.set.2.1 hS.set.2.2 rfl 4 (by decide) fl_S_31 rfl rfl d_S_addLetter_45 ?_
    refine v_iload_n hX d_S_addLetter_48 rfl rfl ?_
    refine c_V hX 26 (rest := []) hl (S_add26 hS x (by omega)) ml_S_119 im_R_add se_R_add in_R cd_R_add rfl q_R_add ⟨(Nat.le_of_ble_eq_true rfl), (Nat.le_of_ble_eq_true rfl)⟩ (hS.row 26 (by decide)).1 (hS.row 26 (by decide)).2.1 (hS.row 26 (by decide)).2.2.choose_spec rfl rfl rfl rfl (Nat.le_of_ble_eq_true rfl) d_S_addLetter_49 ⟨by have a := hP.2; have b := hx; show _ + 20 ≤ 120 + (2663816 - ph) / 16; omega, by have a := hP.1; have b := hx; show _ + 700000 ≤ 700000 + (2663816 - ph); omega⟩ (fun rv d2 lo1 va1 kc1 ns1 hp => ?_)
    obtain ⟨rfl, rfl, ⟨nl1, ph1, hS1, hm1, hp1⟩, hf1⟩ := hp
    show V X D CL A _ _ _ _ _ _ _ []
    have hP1 : (0 + ns1) + ph ≤ ph1 ∧ 16 * (0 + kc1) + ph ≤ ph1 := ⟨by have a := hP.1; have b := hp1.1; omega, by have a := hP.2; have b := hp1.2; omega⟩
    have hx1 : ph1 ≤ 2663816 := hS1.phi
    have hn1 : nl ≤ nl1 := Nat.le_trans (Nat.le_refl nl) hm1
    exact v_vret hX hE d_S_addLetter_52 (by have a := hP1.2; have b := hx1; show _ ≤ 120 + (2663816 - ph) / 16; omega) (by have a := hP1.1; have b := hx1; show _ ≤ 700000 + (2663816 - ph); omega) ⟨rfl, rfl, ⟨(w + 1), c, nl1, ph1, ⟨by omega, by omega⟩, hS1, hn1, by have a := hP1.1; have b := hP1.2; exact ⟨by omega, by omega⟩⟩, (frL.rf.trans hf1)⟩
  · have f8 : ¬ w < wd := fun z => c8 ((nI_ltI (a := w) (b := wd) (by omega) (by omega)).mpr z)
    refine v_aload_n hX d_S_addLetter_11 rfl rfl ?_
    refine v_get hX 2 (v := .ref (ob 28)) inT2 hS.set.1 hS.set.2.1 hS.set.2.2 rfl 5 (by decide) fl_S_34 rfl rfl d_S_addLetter_12 ?_
    refine c_V hX 28 (rest := []) hl (S_size28 hS) ml_S_129 im_R_size se_R_size in_R cd_R_size rfl q_R_size ⟨(Nat.le_of_ble_eq_true rfl), (Nat.le_of_ble_eq_true rfl)⟩ (hS.row 28 (by decide)).1 (hS.row 28 (by decide)).2.1 (hS.row 28 (by decide)).2.2.choose_spec rfl rfl rfl rfl (Nat.le_of_ble_eq_true rfl) d_S_addLetter_15 ⟨by have a := hP.2; have b := hx; show _ + 100 ≤ 120 + (2663816 - ph) / 16; omega, by have a := hP.1; have b := hx; show _ + 200000 ≤ 700000 + (2663816 - ph); omega⟩ (fun rv d2 lo2 va2 kc ns hp => ?_)
    obtain ⟨rfl, rfl, rfl, rfl, rfl, rfl⟩ := hp
    show V X D CL A _ _ _ _ _ _ _ (.int (nI c) :: [])
    refine v_if_le hX d_S_addLetter_18 (tgt := 25) (by decide) (fun c18 => ?_) (fun c18 => ?_)
    · have f18 : c ≤ 0 := (nI_leI (a := c) (b := 0) (by omega) (by omega)).mp c18
      refine v_aload_n hX d_S_addLetter_25 rfl rfl ?_
      refine v_get hX 2 (v := .ref (ob 28)) inT2 hS.set.1 hS.set.2.1 hS.set.2.2 rfl 5 (by decide) fl_S_34 rfl rfl d_S_addLetter_26 ?_
      refine v_aload_n hX d_S_addLetter_29 rfl rfl ?_
      refine v_get hX 2 (v := .ref (ob 26)) inT2 hS.set.1 hS.set.2.1 hS.set.2.2 rfl 4 (by decide) fl_S_31 rfl rfl d_S_addLetter_30 ?_
      refine c_V hX 28 (rest := []) hl (S_all hS (by omega)) ml_S_152 im_R_addAll se_R_addAll in_R cd_R_addAll rfl q_R_addAll ⟨(Nat.le_of_ble_eq_true rfl), (Nat.le_of_ble_eq_true rfl)⟩ (hS.row 28 (by decide)).1 (hS.row 28 (by decide)).2.1 (hS.row 28 (by decide)).2.2.choose_spec rfl rfl rfl rfl (Nat.le_of_ble_eq_true rfl) d_S_addLetter_33 ⟨by have a := hP.2; have b := hx; show _ + 20 ≤ 120 + (2663816 - ph) / 16; omega, by have a := hP.1; have b := hx; show _ + 700000 ≤ 700000 + (2663816 - ph); omega⟩ (fun rv d2 lo2 va2 kc2 ns2 hp => ?_)
      obtain ⟨rfl, rfl, ⟨nl2, ph2, hS2, hm2, hp2⟩, hf2⟩ := hp
      show V X D CL A _ _ _ _ _ _ _ []
      have hP2 : (0 + ns2) + ph ≤ ph2 ∧ 16 * (0 + kc2) + ph ≤ ph2 := ⟨by have a := hP.1; have b := hp2.1; omega, by have a := hP.2; have b := hp2.2; omega⟩
      have hx2 : ph2 ≤ 2663816 := hS2.phi
      have hn2 : nl ≤ nl2 := Nat.le_trans (Nat.le_refl nl) hm2
      refine v_aload_n hX d_S_addLetter_36 rfl rfl ?_
      refine v_get hX 2 (v := .ref (ob 26)) inT2 hS2.set.1 hS2.set.2.1 hS2.set.2.2 rfl 4 (by decide) fl_S_31 rfl rfl d_S_addLetter_37 ?_
      refine v_iconst (v := 0) hX d_S_addLetter_40 (by decide) ?_
      refine c_V hX 26 (rest := []) hl (S_cut26 hS2) ml_S_156 im_R_cut se_R_cut in_R cd_R_cut rfl q_R_cut ⟨(Nat.le_of_ble_eq_true rfl), (Nat.le_of_ble_eq_true rfl)⟩ (hS2.row 26 (by decide)).1 (hS2.row 26 (by decide)).2.1 (hS2.row 26 (by decide)).2.2.choose_spec rfl rfl rfl rfl (Nat.le_of_ble_eq_true rfl) d_S_addLetter_41 ⟨by have a := hP2.2; have b := hx2; show _ + 100 ≤ 120 + (2663816 - ph) / 16; omega, by have a := hP2.1; have b := hx2; show _ + 200000 ≤ 700000 + (2663816 - ph); omega⟩ (fun rv d2 lo3 va3 kc3 ns3 hp => ?_)
      obtain ⟨rfl, rfl, ⟨nl3, ph3, hS3, hm3, hp3⟩, hf3⟩ := hp
      show V X D CL A _ _ _ _ _ _ _ []
      have hP3 : (0 + ns2 + ns3) + ph ≤ ph3 ∧ 16 * (0 + kc2 + kc3) + ph ≤ ph3 := ⟨by have a := hP2.1; have b := hp3.1; omega, by have a := hP2.2; have b := hp3.2; omega⟩
      have hx3 : ph3 ≤ 2663816 := hS3.phi
      have hn3 : nl ≤ nl3 := Nat.le_trans hn2 hm3
      refine v_aload_n hX d_S_addLetter_44 rfl rfl ?_
      refine v_get hX 2 (v := .ref (ob 26)) inT2 hS3.set.1 hS3.set.2.1 hS3.set.2.2 rfl 4 (by decide) fl_S_31 rfl rfl d_S_addLetter_45 ?_
      refine v_iload_n hX d_S_addLetter_48 rfl rfl ?_
      refine c_V hX 26 (rest := []) hl (S_add26 hS3 x (by omega)) ml_S_119 im_R_add se_R_add in_R cd_R_add rfl q_R_add ⟨(Nat.le_of_ble_eq_true rfl), (Nat.le_of_ble_eq_true rfl)⟩ (hS3.row 26 (by decide)).1 (hS3.row 26 (by decide)).2.1 (hS3.row 26 (by decide)).2.2.choose_spec rfl rfl rfl rfl (Nat.le_of_ble_eq_true rfl) d_S_addLetter_49 ⟨by have a := hP3.2; have b := hx3; show _ + 20 ≤ 120 + (2663816 - ph) / 16; omega, by have a := hP3.1; have b := hx3; show _ + 700000 ≤ 700000 + (2663816 - ph); omega⟩ (fun rv d2 lo4 va4 kc4 ns4 hp => ?_)
      obtain ⟨rfl, rfl, ⟨nl4, ph4, hS4, hm4, hp4⟩, hf4⟩ := hp
      show V X D CL A _ _ _ _ _ _ _ []
      have hP4 : (0 + ns2 + ns3 + ns4) + ph ≤ ph4 ∧ 16 * (0 + kc2 + kc3 + kc4) + ph ≤ ph4 := ⟨by have a := hP3.1; have b := hp4.1; omega, by have a := hP3.2; have b := hp4.2; omega⟩
      have hx4 : ph4 ≤ 2663816 := hS4.phi
      have hn4 : nl ≤ nl4 := Nat.le_trans hn3 hm4
      exact v_vret hX hE d_S_addLetter_52 (by have a := hP4.2; have b := hx4; show _ ≤ 120 + (2663816 - ph) / 16; omega) (by have a := hP4.1; have b := hx4; show _ ≤ 700000 + (2663816 - ph); omega) ⟨rfl, rfl, ⟨(0 + 1), (c + w), nl4, ph4, ⟨by omega, by omega⟩, hS4, hn4, by have a := hP4.1; have b := hP4.2; exact ⟨by omega, by omega⟩⟩, (((frL.rf.trans hf2).trans hf3).trans hf4)⟩
    · have f18 : ¬ c ≤ 0 := fun z => c18 ((nI_leI (a := c) (b := 0) (by omega) (by omega)).mpr z)
      refine v_aload_n hX d_S_addLetter_21 rfl rfl ?_
      refine c_V hX 2 (rest := []) hl (c_S_putLine hS (by omega) (by omega)) ml_S_122 im_S_putLine se_S_putLine in_S cd_S_putLine rfl q_S_putLine ⟨(Nat.le_of_ble_eq_true rfl), (Nat.le_of_ble_eq_true rfl)⟩ hS.set.1 hS.set.2.1 hS.set.2.2 rfl rfl rfl rfl (Nat.le_of_ble_eq_true rfl) d_S_addLetter_22 ⟨by have a := hP.2; have b := hx; show _ + (120 + (2663816 - ph) / 16) ≤ 120 + (2663816 - ph) / 16; omega, by have a := hP.1; have b := hx; show _ + (700000 + (2663816 - ph)) ≤ 700000 + (2663816 - ph); omega⟩ (fun rv d2 lo5 va5 kc5 ns5 hp => ?_)
      obtain ⟨rfl, rfl, ⟨nl5, ph5, hS5, hm5, hp5⟩, hf5⟩ := hp
      show V X D CL A _ _ _ _ _ _ _ []
      have hP5 : (0 + ns5) + ph ≤ ph5 ∧ 16 * (0 + kc5) + ph ≤ ph5 := ⟨by have a := hP.1; have b := hp5.1; omega, by have a := hP.2; have b := hp5.2; omega⟩
      have hx5 : ph5 ≤ 2663816 := hS5.phi
      have hn5 : nl ≤ nl5 := Nat.le_trans (Nat.le_refl nl) hm5
      refine v_aload_n hX d_S_addLetter_25 rfl rfl ?_
      refine v_get hX 2 (v := .ref (ob 28)) inT2 hS5.set.1 hS5.set.2.1 hS5.set.2.2 rfl 5 (by decide) fl_S_34 rfl rfl d_S_addLetter_26 ?_
      refine v_aload_n hX d_S_addLetter_29 rfl rfl ?_
      refine v_get hX 2 (v := .ref (ob 26)) inT2 hS5.set.1 hS5.set.2.1 hS5.set.2.2 rfl 4 (by decide) fl_S_31 rfl rfl d_S_addLetter_30 ?_
      refine c_V hX 28 (rest := []) hl (S_all hS5 (by omega)) ml_S_152 im_R_addAll se_R_addAll in_R cd_R_addAll rfl q_R_addAll ⟨(Nat.le_of_ble_eq_true rfl), (Nat.le_of_ble_eq_true rfl)⟩ (hS5.row 28 (by decide)).1 (hS5.row 28 (by decide)).2.1 (hS5.row 28 (by decide)).2.2.choose_spec rfl rfl rfl rfl (Nat.le_of_ble_eq_true rfl) d_S_addLetter_33 ⟨by have a := hP5.2; have b := hx5; show _ + 20 ≤ 120 + (2663816 - ph) / 16; omega, by have a := hP5.1; have b := hx5; show _ + 700000 ≤ 700000 + (2663816 - ph); omega⟩ (fun rv d2 lo6 va6 kc6 ns6 hp => ?_)
      obtain ⟨rfl, rfl, ⟨nl6, ph6, hS6, hm6, hp6⟩, hf6⟩ := hp
      show V X D CL A _ _ _ _ _ _ _ []
      have hP6 : (0 + ns5 + ns6) + ph ≤ ph6 ∧ 16 * (0 + kc5 + kc6) + ph ≤ ph6 := ⟨by have a := hP5.1; have b := hp6.1; omega, by have a := hP5.2; have b := hp6.2; omega⟩
      have hx6 : ph6 ≤ 2663816 := hS6.phi
      have hn6 : nl ≤ nl6 := Nat.le_trans hn5 hm6
      refine v_aload_n hX d_S_addLetter_36 rfl rfl ?_
      refine v_get hX 2 (v := .ref (ob 26)) inT2 hS6.set.1 hS6.set.2.1 hS6.set.2.2 rfl 4 (by decide) fl_S_31 rfl rfl d_S_addLetter_37 ?_
      refine v_iconst (v := 0) hX d_S_addLetter_40 (by decide) ?_
      refine c_V hX 26 (rest := []) hl (S_cut26 hS6) ml_S_156 im_R_cut se_R_cut in_R cd_R_cut rfl q_R_cut ⟨(Nat.le_of_ble_eq_true rfl), (Nat.le_of_ble_eq_true rfl)⟩ (hS6.row 26 (by decide)).1 (hS6.row 26 (by decide)).2.1 (hS6.row 26 (by decide)).2.2.choose_spec rfl rfl rfl rfl (Nat.le_of_ble_eq_true rfl) d_S_addLetter_41 ⟨by have a := hP6.2; have b := hx6; show _ + 100 ≤ 120 + (2663816 - ph) / 16; omega, by have a := hP6.1; have b := hx6; show _ + 200000 ≤ 700000 + (2663816 - ph); omega⟩ (fun rv d2 lo7 va7 kc7 ns7 hp => ?_)
      obtain ⟨rfl, rfl, ⟨nl7, ph7, hS7, hm7, hp7⟩, hf7⟩ := hp
      show V X D CL A _ _ _ _ _ _ _ []
      have hP7 : (0 + ns5 + ns6 + ns7) + ph ≤ ph7 ∧ 16 * (0 + kc5 + kc6 + kc7) + ph ≤ ph7 := ⟨by have a := hP6.1; have b := hp7.1; omega, by have a := hP6.2; have b := hp7.2; omega⟩
      have hx7 : ph7 ≤ 2663816 := hS7.phi
      have hn7 : nl ≤ nl7 := Nat.le_trans hn6 hm7
      refine v_aload_n hX d_S_addLetter_44 rfl rfl ?_
      refine v_get hX 2 (v := .ref (ob 26)) inT2 hS7.set.1 hS7.set.2.1 hS7.set.2.2 rfl 4 (by decide) fl_S_31 rfl rfl d_S_addLetter_45 ?_
      refine v_iload_n hX d_S_addLetter_48 rfl rfl ?_
      refine c_V hX 26 (rest := []) hl (S_add26 hS7 x (by omega)) ml_S_119 im_R_add se_R_add in_R cd_R_add rfl q_R_add ⟨(Nat.le_of_ble_eq_true rfl), (Nat.le_of_ble_eq_true rfl)⟩ (hS7.row 26 (by decide)).1 (hS7.row 26 (by decide)).2.1 (hS7.row 26 (by decide)).2.2.choose_spec rfl rfl rfl rfl (Nat.le_of_ble_eq_true rfl) d_S_addLetter_49 ⟨by have a := hP7.2; have b := hx7; show _ + 20 ≤ 120 + (2663816 - ph) / 16; omega, by have a := hP7.1; have b := hx7; show _ + 700000 ≤ 700000 + (2663816 - ph); omega⟩ (fun rv d2 lo8 va8 kc8 ns8 hp => ?_)
      obtain ⟨rfl, rfl, ⟨nl8, ph8, hS8, hm8, hp8⟩, hf8⟩ := hp
      show V X D CL A _ _ _ _ _ _ _ []
      have hP8 : (0 + ns5 + ns6 + ns7 + ns8) + ph ≤ ph8 ∧ 16 * (0 + kc5 + kc6 + kc7 + kc8) + ph ≤ ph8 := ⟨by have a := hP7.1; have b := hp8.1; omega, by have a := hP7.2; have b := hp8.2; omega⟩
      have hx8 : ph8 ≤ 2663816 := hS8.phi
      have hn8 : nl ≤ nl8 := Nat.le_trans hn7 hm8
      exact v_vret hX hE d_S_addLetter_52 (by have a := hP8.2; have b := hx8; show _ ≤ 120 + (2663816 - ph) / 16; omega) (by have a := hP8.1; have b := hx8; show _ ≤ 700000 + (2663816 - ph); omega) ⟨rfl, rfl, ⟨(0 + 1), (0 + w), nl8, ph8, ⟨by omega, by omega⟩, hS8, hn8, by have a := hP8.1; have b := hP8.2; exact ⟨by omega, by omega⟩⟩, ((((frL.rf.trans hf5).trans hf6).trans hf7).trans hf8)⟩
set_option maxHeartbeats 4000000 in
set_option maxRecDepth 100000 in
theorem c_S_endWord {l : Launch} {D : va_G} {A : Nat → Prop} {cI cB cZ cJ cN : ClassId} {ob : Nat → Nat} {td w c a al nl pf tl ph : Nat} {dom : Nat → Prop} {loc : Nat → Nat} {val : Nat → va_E} (hS : LayS cI ob td w c a al nl pf tl ph dom loc val) {wd : Nat} (hwd : 4 ≤ wd ∧ wd ≤ 60) (ha : a ≤ 144) (hw : w ≤ wd) (hc : c ≤ wd) : kM l y_S_endWord (Cond.code y_S_endWord b_S_endWord 2 none :: TT) (rmP 4 ph) D CL (TY cI cB cZ cJ cN) A [.ref (ob 2), .int (nI wd)] dom loc val (fun rv d lo va kc ns => rv = none ∧ dom = d ∧ (∃ c2 nl2 ph2, c2 ≤ wd ∧ LayS cI ob td 0 c2 a al nl2 pf tl ph2 dom lo va ∧ nl ≤ nl2 ∧ (ns + ph ≤ ph2 ∧ 16 * kc + ph ≤ ph2)) ∧ frL loc val lo va) := by
  refine kM_of (lv0 := [some (.ref (ob 2)), some (.int (nI wd))]) (own := "ProsePages$Setter") (by decide) rfl (List.forall_mem_cons.mpr ⟨rfl, List.forall_mem_cons.mpr ⟨rfl, fun _ h => nomatch h⟩⟩) (Nat.le_of_ble_eq_true rfl) rfl (Nat.le_of_ble_eq_true rfl) (fun X hl hX hE hin0 => ?_)
  have hP : 0 + ph ≤ ph ∧ 16 * 0 + ph ≤ ph := ⟨by omega, by omega⟩
  have hx : ph ≤ 2663816 := hS.phi
  refine v_aload_n hX d_S_endWord_0 rfl rfl ?_
  refine v_get hX 2 (v := .ref (ob 26)) inT2 hS.set.1 hS.set.2.1 hS.set.2.2 rfl 4 (by decide) fl_S_31 rfl rfl d_S_endWord_1 ?_
  refine c_V hX 26 (rest := []) hl (S_size26 hS) ml_S_129 im_R_size se_R_size in_R cd_R_size rfl q_R_size ⟨(Nat.le_of_ble_eq_true rfl), (Nat.le_of_ble_eq_true rfl)⟩ (hS.row 26 (by decide)).1 (hS.row 26 (by decide)).2.1 (hS.row 26 (by decide)).2.2.choose_spec rfl rfl rfl rfl (Nat.le_of_ble_eq_true rfl) d_S_endWord_4 ⟨by have a := hP.2; have b := hx; show _ + 100 ≤ 120 + (2663816 - ph) / 16; omega, by have a := hP.1; have b := hx; show _ + 200000 ≤ 700000 + (2663816 - ph); omega⟩ (fun rv d2 lo2 va2 kc ns hp => ?_)
  obtain ⟨rfl, rfl, rfl, rfl, rfl, rfl⟩ := hp
  show V X D CL A _ _ _ _ _ _ _ (.int (nI w) :: [])
  refine v_if_ne hX d_S_endWord_7 (tgt := 11) (by decide) (fun c7 => ?_) (fun c7 => ?_)
  · have f7 : ¬ w = 0 := fun z => c7 ((nI_eq (a := w) (b := 0) (by omega) (by omega)).mpr z)
    refine v_aload_n hX d_S_endWord_11 rfl rfl ?_
    refine v_get hX 2 (v := .ref (ob 28)) inT2 hS.set.1 hS.set.2.1 hS.set.2.2 rfl 5 (by decide) fl_S_34 rfl rfl d_S_endWord_12 ?_
    refine c_V hX 28 (rest := []) hl (S_size28 hS) ml_S_129 im_R_size se_R_size in_R cd_R_size rfl q_R_size ⟨(Nat.le_of_ble_eq_true rfl), (Nat.le_of_ble_eq_true rfl)⟩ (hS.row 28 (by decide)).1 (hS.row 28 (by decide)).2.1 (hS.row 28 (by decide)).2.2.choose_spec rfl rfl rfl rfl (Nat.le_of_ble_eq_true rfl) d_S_endWord_15 ⟨by have a := hP.2; have b := hx; show _ + 100 ≤ 120 + (2663816 - ph) / 16; omega, by have a := hP.1; have b := hx; show _ + 200000 ≤ 700000 + (2663816 - ph); omega⟩ (fun rv d2 lo2 va2 kc ns hp => ?_)
    obtain ⟨rfl, rfl, rfl, rfl, rfl, rfl⟩ := hp
    show V X D CL A _ _ _ _ _ _ _ (.int (nI c) :: [])
    refine v_if_le hX d_S_endWord_18 (tgt := 46) (by decide) (fun c18 => ?_) (fun c18 => ?_)
    · have f18 : c ≤ 0 := (nI_leI (a := c) (b := 0) (by omega) (by omega)).mp c18
      refine v_aload_n hX d_S_endWord_46 rfl rfl ?_
      refine v_get hX 2 (v := .ref (ob 28)) inT2 hS.set.1 hS.set.2.1 hS.set.2.2 rfl 5 (by decide) fl_S_34 rfl rfl d_S_endWord_47 ?_
      refine c_V hX 28 (rest := []) hl (S_size28 hS) ml_S_129 im_R_size se_R_size in_R cd_R_size rfl q_R_size ⟨(Nat.le_of_ble_eq_true rfl), (Nat.le_of_ble_eq_true rfl)⟩ (hS.row 28 (by decide)).1 (hS.row 28 (by decide)).2.1 (hS.row 28 (by decide)).2.2.choose_spec rfl rfl rfl rfl (Nat.le_of_ble_eq_true rfl) d_S_endWord_50 ⟨by have a := hP.2; have b := hx; show _ + 100 ≤ 120 + (2663816 - ph) / 16; omega, by have a := hP.1; have b := hx; show _ + 200000 ≤ 700000 + (2663816 - ph); omega⟩ (fun rv d2 lo2 va2 kc ns hp => ?_)
      obtain ⟨rfl, rfl, rfl, rfl, rfl, rfl⟩ := hp
      show V X D CL A _ _ _ _ _ _ _ (.int (nI c) :: [])
      refine v_if_le hX d_S_endWord_53 (tgt := 65) (by decide) (fun c53 => ?_) (fun c53 => ?_)
      · have f53 : c ≤ 0 := (nI_leI (a := c) (b := 0) (by omega) (by omega)).mp c53
        refine v_aload_n hX d_S_endWord_65 rfl rfl ?_
        refine v_get hX 2 (v := .ref (ob 28)) inT2 hS.set.1 hS.set.2.1 hS.set.2.2 rfl 5 (by decide) fl_S_34 rfl rfl d_S_endWord_66 ?_
        refine v_aload_n hX d_S_endWord_69 rfl rfl ?_
        refine v_get hX 2 (v := .ref (ob 26)) inT2 hS.set.1 hS.set.2.1 hS.set.2.2 rfl 4 (by decide) fl_S_31 rfl rfl d_S_endWord_70 ?_
        refine c_V hX 28 (rest := []) hl (S_all hS (by omega)) ml_S_152 im_R_addAll se_R_addAll in_R cd_R_addAll rfl q_R_addAll ⟨(Nat.le_of_ble_eq_true rfl), (Nat.le_of_ble_eq_true rfl)⟩ (hS.row 28 (by decide)).1 (hS.row 28 (by decide)).2.1 (hS.row 28 (by decide)).2.2.choose_spec rfl rfl rfl rfl (Nat.le_of_ble_eq_true rfl) d_S_endWord_73 ⟨by have a := hP.2; have b := hx; show _ + 20 ≤ 120 + (2663816 - ph) / 16; omega, by have a := hP.1; have b := hx; show _ + 700000 ≤ 700000 + (2663816 - ph); omega⟩ (fun rv d2 lo1 va1 kc1 ns1 hp => ?_)
        obtain ⟨rfl, rfl, ⟨nl1, ph1, hS1, hm1, hp1⟩, hf1⟩ := hp
        show V X D CL A _ _ _ _ _ _ _ []
        have hP1 : (0 + ns1) + ph ≤ ph1 ∧ 16 * (0 + kc1) + ph ≤ ph1 := ⟨by have a := hP.1; have b := hp1.1; omega, by have a := hP.2; have b := hp1.2; omega⟩
        have hx1 : ph1 ≤ 2663816 := hS1.phi
        have hn1 : nl ≤ nl1 := Nat.le_trans (Nat.le_refl nl) hm1
        refine v_aload_n hX d_S_endWord_76 rfl rfl ?_
        refine v_get hX 2 (v := .ref (ob 26)) inT2 hS1.set.1 hS1.set.2.1 hS1.set.2.2 rfl 4 (by decide) fl_S_31 rfl rfl d_S_endWord_77 ?_
        refine v_iconst (v := 0) hX d_S_endWord_80 (by decide) ?_
        refine c_V hX 26 (rest := []) hl (S_cut26 hS1) ml_S_156 im_R_cut se_R_cut in_R cd_R_cut rfl q_R_cut ⟨(Nat.le_of_ble_eq_true rfl), (Nat.le_of_ble_eq_true rfl)⟩ (hS1.row 26 (by decide)).1 (hS1.row 26 (by decide)).2.1 (hS1.row 26 (by decide)).2.2.choose_spec rfl rfl rfl rfl (Nat.le_of_ble_eq_true rfl) d_S_endWord_81 ⟨by have a := hP1.2; have b := hx1; show _ + 100 ≤ 120 + (2663816 - ph) / 16; omega, by have a := hP1.1; have b := hx1; show _ + 200000 ≤ 700000 + (2663816 - ph); omega⟩ (fun rv d2 lo2 va2 kc2 ns2 hp => ?_)
        obtain ⟨rfl, rfl, ⟨nl2, ph2, hS2, hm2, hp2⟩, hf2⟩ := hp
        show V X D CL A _ _ _ _ _ _ _ []
        have hP2 : (0 + ns1 + ns2) + ph ≤ ph2 ∧ 16 * (0 + kc1 + kc2) + ph ≤ ph2 := ⟨by have a := hP1.1; have b := hp2.1; omega, by have a := hP1.2; have b := hp2.2; omega⟩
        have hx2 : ph2 ≤ 2663816 := hS2.phi
        have hn2 : nl ≤ nl2 := Nat.le_trans hn1 hm2
        exact v_vret hX hE d_S_endWord_84 (by have a := hP2.2; have b := hx2; show _ ≤ 120 + (2663816 - ph) / 16; omega) (by have a := hP2.1; have b := hx2; show _ ≤ 700000 + (2663816 - ph); omega) ⟨rfl, rfl, ⟨(c + w), nl2, ph2, by omega, hS2, hn2, by have a := hP2.1; have b := hP2.2; exact ⟨by omega, by omega⟩⟩, ((frL.rf.trans hf1).trans hf2)⟩
      · have f53 : ¬ c ≤ 0 := fun z => c53 ((nI_leI (a := c) (b := 0) (by omega) (by omega)).mpr z)
        refine v_aload_n hX d_S_endWord_56 rfl rfl ?_
        refine v_get hX 2 (v := .ref (ob 28)) inT2 hS.set.1 hS.set.2.1 hS.set.2.2 rfl 5 (by decide) fl_S_34 rfl rfl d_S_endWord_57 ?_
        refine v_bipush (v := 32) hX d_S_endWord_60 (by decide) ?_
        refine c_V hX 28 (rest := []) hl (S_add28 hS 32 (by omega)) ml_S_119 im_R_add se_R_add in_R cd_R_add rfl q_R_add ⟨(Nat.le_of_ble_eq_true rfl), (Nat.le_of_ble_eq_true rfl)⟩ (hS.row 28 (by decide)).1 (hS.row 28 (by decide)).2.1 (hS.row 28 (by decide)).2.2.choose_spec rfl rfl rfl rfl (Nat.le_of_ble_eq_true rfl) d_S_endWord_62 ⟨by have a := hP.2; have b := hx; show _ + 20 ≤ 120 + (2663816 - ph) / 16; omega, by have a := hP.1; have b := hx; show _ + 700000 ≤ 700000 + (2663816 - ph); omega⟩ (fun rv d2 lo3 va3 kc3 ns3 hp => ?_)
        obtain ⟨rfl, rfl, ⟨nl3, ph3, hS3, hm3, hp3⟩, hf3⟩ := hp
        show V X D CL A _ _ _ _ _ _ _ []
        have hP3 : (0 + ns3) + ph ≤ ph3 ∧ 16 * (0 + kc3) + ph ≤ ph3 := ⟨by have a := hP.1; have b := hp3.1; omega, by have a := hP.2; have b := hp3.2; omega⟩
        have hx3 : ph3 ≤ 2663816 := hS3.phi
        have hn3 : nl ≤ nl3 := Nat.le_trans (Nat.le_refl nl) hm3
        refine v_aload_n hX d_S_endWord_65 rfl rfl ?_
        refine v_get hX 2 (v := .ref (ob 28)) inT2 hS3.set.1 hS3.set.2.1 hS3.set.2.2 rfl 5 (by decide) fl_S_34 rfl rfl d_S_endWord_66 ?_
        refine v_aload_n hX d_S_endWord_69 rfl rfl ?_
        refine v_get hX 2 (v := .ref (ob 26)) inT2 hS3.set.1 hS3.set.2.1 hS3.set.2.2 rfl 4 (by decide) fl_S_31 rfl rfl d_S_endWord_70 ?_
        refine c_V hX 28 (rest := []) hl (S_all hS3 (by omega)) ml_S_152 im_R_addAll se_R_addAll in_R cd_R_addAll rfl q_R_addAll ⟨(Nat.le_of_ble_eq_true rfl), (Nat.le_of_ble_eq_true rfl)⟩ (hS3.row 28 (by decide)).1 (hS3.row 28 (by decide)).2.1 (hS3.row 28 (by decide)).2.2.choose_spec rfl rfl rfl rfl (Nat.le_of_ble_eq_true rfl) d_S_endWord_73 ⟨by have a := hP3.2; have b := hx3; show _ + 20 ≤ 120 + (2663816 - ph) / 16; omega, by have a := hP3.1; have b := hx3; show _ + 700000 ≤ 700000 + (2663816 - ph); omega⟩ (fun rv d2 lo4 va4 kc4 ns4 hp => ?_)
        obtain ⟨rfl, rfl, ⟨nl4, ph4, hS4, hm4, hp4⟩, hf4⟩ := hp
        show V X D CL A _ _ _ _ _ _ _ []
        have hP4 : (0 + ns3 + ns4) + ph ≤ ph4 ∧ 16 * (0 + kc3 + kc4) + ph ≤ ph4 := ⟨by have a := hP3.1; have b := hp4.1; omega, by have a := hP3.2; have b := hp4.2; omega⟩
        have hx4 : ph4 ≤ 2663816 := hS4.phi
        have hn4 : nl ≤ nl4 := Nat.le_trans hn3 hm4
        refine v_aload_n hX d_S_endWord_76 rfl rfl ?_
        refine v_get hX 2 (v := .ref (ob 26)) inT2 hS4.set.1 hS4.set.2.1 hS4.set.2.2 rfl 4 (by decide) fl_S_31 rfl rfl d_S_endWord_77 ?_
        refine v_iconst (v := 0) hX d_S_endWord_80 (by decide) ?_
        refine c_V hX 26 (rest := []) hl (S_cut26 hS4) ml_S_156 im_R_cut se_R_cut in_R cd_R_cut rfl q_R_cut ⟨(Nat.le_of_ble_eq_true rfl), (Nat.le_of_ble_eq_true rfl)⟩ (hS4.row 26 (by decide)).1 (hS4.row 26 (by decide)).2.1 (hS4.row 26 (by decide)).2.2.choose_spec rfl rfl rfl rfl (Nat.le_of_ble_eq_true rfl) d_S_endWord_81 ⟨by have a := hP4.2; have b := hx4; show _ + 100 ≤ 120 + (2663816 - ph) / 16; omega, by have a := hP4.1; have b := hx4; show _ + 200000 ≤ 700000 + (2663816 - ph); omega⟩ (fun rv d2 lo5 va5 kc5 ns5 hp => ?_)
        obtain ⟨rfl, rfl, ⟨nl5, ph5, hS5, hm5, hp5⟩, hf5⟩ := hp
        show V X D CL A _ _ _ _ _ _ _ []
        have hP5 : (0 + ns3 + ns4 + ns5) + ph ≤ ph5 ∧ 16 * (0 + kc3 + kc4 + kc5) + ph ≤ ph5 := ⟨by have a := hP4.1; have b := hp5.1; omega, by have a := hP4.2; have b := hp5.2; omega⟩
        have hx5 : ph5 ≤ 2663816 := hS5.phi
        have hn5 : nl ≤ nl5 := Nat.le_trans hn4 hm5
        exact v_vret hX hE d_S_endWord_84 (by have a := hP5.2; have b := hx5; show _ ≤ 120 + (2663816 - ph) / 16; omega) (by have a := hP5.1; have b := hx5; show _ ≤ 700000 + (2663816 - ph); omega) ⟨rfl, rfl, ⟨((c + 1) + w), nl5, ph5, by omega, hS5, hn5, by have a := hP5.1; have b := hP5.2; exact ⟨by omega, by omega⟩⟩, (((frL.rf.trans hf3).trans hf4).trans hf5)⟩
    · have f18 : ¬ c ≤ 0 := fun z => c18 ((nI_leI (a := c) (b := 0) (by omega) (by omega)).mpr z)
      refine v_aload_n hX d_S_endWord_21 rfl rfl ?_
      refine v_get hX 2 (v := .ref (ob 28)) inT2 hS.set.1 hS.set.2.1 hS.set.2.2 rfl 5 (by decide) fl_S_34 rfl rfl d_S_endWord_22 ?_
      refine c_V hX 28 (rest := []) hl (S_size28 hS) ml_S_129 im_R_size se_R_size in_R cd_R_size rfl q_R_size ⟨(Nat.le_of_ble_eq_true rfl), (Nat.le_of_ble_eq_true rfl)⟩ (hS.row 28 (by decide)).1 (hS.row 28 (by decide)).2.1 (hS.row 28 (by decide)).2.2.choose_spec rfl rfl rfl rfl (Nat.le_of_ble_eq_true rfl) d_S_endWord_25 ⟨by have a := hP.2; have b := hx; show _ + 100 ≤ 120 + (2663816 - ph) / 16; omega, by have a := hP.1; have b := hx; show _ + 200000 ≤ 700000 + (2663816 - ph); omega⟩ (fun rv d2 lo2 va2 kc ns hp => ?_)
      obtain ⟨rfl, rfl, rfl, rfl, rfl, rfl⟩ := hp
      show V X D CL A _ _ _ _ _ _ _ (.int (nI c) :: [])
      refine v_iconst (v := 1) hX d_S_endWord_28 (by decide) ?_
      refine v_iaddE (v := nI (c + 1)) hX d_S_endWord_29 (nI_add c 1) ?_
      refine v_aload_n hX d_S_endWord_30 rfl rfl ?_
      refine v_get hX 2 (v := .ref (ob 26)) inT2 hS.set.1 hS.set.2.1 hS.set.2.2 rfl 4 (by decide) fl_S_31 rfl rfl d_S_endWord_31 ?_
      refine c_V hX 26 (rest := [.int (nI (c + 1))]) hl (S_size26 hS) ml_S_129 im_R_size se_R_size in_R cd_R_size rfl q_R_size ⟨(Nat.le_of_ble_eq_true rfl), (Nat.le_of_ble_eq_true rfl)⟩ (hS.row 26 (by decide)).1 (hS.row 26 (by decide)).2.1 (hS.row 26 (by decide)).2.2.choose_spec rfl rfl rfl rfl (Nat.le_of_ble_eq_true rfl) d_S_endWord_34 ⟨by have a := hP.2; have b := hx; show _ + 100 ≤ 120 + (2663816 - ph) / 16; omega, by have a := hP.1; have b := hx; show _ + 200000 ≤ 700000 + (2663816 - ph); omega⟩ (fun rv d2 lo2 va2 kc ns hp => ?_)
      obtain ⟨rfl, rfl, rfl, rfl, rfl, rfl⟩ := hp
      show V X D CL A _ _ _ _ _ _ _ (.int (nI w) :: [.int (nI (c + 1))])
      refine v_iaddE (v := nI ((c + 1) + w)) hX d_S_endWord_37 (nI_add (c + 1) w) ?_
      refine v_iload_n hX d_S_endWord_38 rfl rfl ?_
      refine v_icmp_le hX d_S_endWord_39 (tgt := 46) (by decide) (fun c39 => ?_) (fun c39 => ?_)
      · have f39 : ((c + 1) + w) ≤ wd := (nI_leI (a := ((c + 1) + w)) (b := wd) (by omega) (by omega)).mp c39
        refine v_aload_n hX d_S_endWord_46 rfl rfl ?_
        refine v_get hX 2 (v := .ref (ob 28)) inT2 hS.set.1 hS.set.2.1 hS.set.2.2 rfl 5 (by decide) fl_S_34 rfl rfl d_S_endWord_47 ?_
        refine c_V hX 28 (rest := []) hl (S_size28 hS) ml_S_129 im_R_size se_R_size in_R cd_R_size rfl q_R_size ⟨(Nat.le_of_ble_eq_true rfl), (Nat.le_of_ble_eq_true rfl)⟩ (hS.row 28 (by decide)).1 (hS.row 28 (by decide)).2.1 (hS.row 28 (by decide)).2.2.choose_spec rfl rfl rfl rfl (Nat.le_of_ble_eq_true rfl) d_S_endWord_50 ⟨by have a := hP.2; have b := hx; show _ + 100 ≤ 120 + (2663816 - ph) / 16; omega, by have a := hP.1; have b := hx; show _ + 200000 ≤ 700000 + (2663816 - ph); omega⟩ (fun rv d2 lo2 va2 kc ns hp => ?_)
        obtain ⟨rfl, rfl, rfl, rfl, rfl, rfl⟩ := hp
        show V X D CL A _ _ _ _ _ _ _ (.int (nI c) :: [])
        refine v_if_le hX d_S_endWord_53 (tgt := 65) (by decide) (fun c53 => ?_) (fun c53 => ?_)
        · have f53 : c ≤ 0 := (nI_leI (a := c) (b := 0) (by omega) (by omega)).mp c53
          refine v_aload_n hX d_S_endWord_65 rfl rfl ?_
          refine v_get hX 2 (v := .ref (ob 28)) inT2 hS.set.1 hS.set.2.1 hS.set.2.2 rfl 5 (by decide) fl_S_34 rfl rfl d_S_endWord_66 ?_
          refine v_aload_n hX d_S_endWord_69 rfl rfl ?_
          refine v_get hX 2 (v := .ref (ob 26)) inT2 hS.set.1 hS.set.2.1 hS.set.2.2 rfl 4 (by decide) fl_S_31 rfl rfl d_S_endWord_70 ?_
          refine c_V hX 28 (rest := []) hl (S_all hS (by omega)) ml_S_152 im_R_addAll se_R_addAll in_R cd_R_addAll rfl q_R_addAll ⟨(Nat.le_of_ble_eq_true rfl), (Nat.le_of_ble_eq_true rfl)⟩ (hS.row 28 (by decide)).1 (hS.row 28 (by decide)).2.1 (hS.row 28 (by decide)).2.2.choose_spec rfl rfl rfl rfl (Nat.le_of_ble_eq_true rfl) d_S_endWord_73 ⟨by have a := hP.2; have b := hx; show _ + 20 ≤ 120 + (2663816 - ph) / 16; omega, by have a := hP.1; have b := hx; show _ + 700000 ≤ 700000 + (2663816 - ph); omega⟩ (fun rv d2 lo6 va6 kc6 ns6 hp => ?_)
          obtain ⟨rfl, rfl, ⟨nl6, ph6, hS6, hm6, hp6⟩, hf6⟩ := hp
          show V X D CL A _ _ _ _ _ _ _ []
          have hP6 : (0 + ns6) + ph ≤ ph6 ∧ 16 * (0 + kc6) + ph ≤ ph6 := ⟨by have a := hP.1; have b := hp6.1; omega, by have a := hP.2; have b := hp6.2; omega⟩
          have hx6 : ph6 ≤ 2663816 := hS6.phi
          have hn6 : nl ≤ nl6 := Nat.le_trans (Nat.le_refl nl) hm6
          refine v_aload_n hX d_S_endWord_76 rfl rfl ?_
          refine v_get hX 2 (v := .ref (ob 26)) inT2 hS6.set.1 hS6.set.2.1 hS6.set.2.2 rfl 4 (by decide) fl_S_31 rfl rfl d_S_endWord_77 ?_
          refine v_iconst (v := 0) hX d_S_endWord_80 (by decide) ?_
          refine c_V hX 26 (rest := []) hl (S_cut26 hS6) ml_S_156 im_R_cut se_R_cut in_R cd_R_cut rfl q_R_cut ⟨(Nat.le_of_ble_eq_true rfl), (Nat.le_of_ble_eq_true rfl)⟩ (hS6.row 26 (by decide)).1 (hS6.row 26 (by decide)).2.1 (hS6.row 26 (by decide)).2.2.choose_spec rfl rfl rfl rfl (Nat.le_of_ble_eq_true rfl) d_S_endWord_81 ⟨by have a := hP6.2; have b := hx6; show _ + 100 ≤ 120 + (2663816 - ph) / 16; omega, by have a := hP6.1; have b := hx6; show _ + 200000 ≤ 700000 + (2663816 - ph); omega⟩ (fun rv d2 lo7 va7 kc7 ns7 hp => ?_)
          obtain ⟨rfl, rfl, ⟨nl7, ph7, hS7, hm7, hp7⟩, hf7⟩ := hp
          show V X D CL A _ _ _ _ _ _ _ []
          have hP7 : (0 + ns6 + ns7) + ph ≤ ph7 ∧ 16 * (0 + kc6 + kc7) + ph ≤ ph7 := ⟨by have a := hP6.1; have b := hp7.1; omega, by have a := hP6.2; have b := hp7.2; omega⟩
          have hx7 : ph7 ≤ 2663816 := hS7.phi
          have hn7 : nl ≤ nl7 := Nat.le_trans hn6 hm7
          exact v_vret hX hE d_S_endWord_84 (by have a := hP7.2; have b := hx7; show _ ≤ 120 + (2663816 - ph) / 16; omega) (by have a := hP7.1; have b := hx7; show _ ≤ 700000 + (2663816 - ph); omega) ⟨rfl, rfl, ⟨(c + w), nl7, ph7, by omega, hS7, hn7, by have a := hP7.1; have b := hP7.2; exact ⟨by omega, by omega⟩⟩, ((frL.rf.trans hf6).trans hf7)⟩
        · have f53 : ¬ c ≤ 0 := fun z => c53 ((nI_leI (a := c) (b := 0) (by omega) (by omega)).mpr z)
          refine v_aload_n hX d_S_endWord_56 rfl rfl ?_
          refine v_get hX 2 (v := .ref (ob 28)) inT2 hS.set.1 hS.set.2.1 hS.set.2.2 rfl 5 (by decide) fl_S_34 rfl rfl d_S_endWord_57 ?_
          refine v_bipush (v := 32) hX d_S_endWord_60 (by decide) ?_
          refine c_V hX 28 (rest := []) hl (S_add28 hS 32 (by omega)) ml_S_119 im_R_add se_R_add in_R cd_R_add rfl q_R_add ⟨(Nat.le_of_ble_eq_true rfl), (Nat.le_of_ble_eq_true rfl)⟩ (hS.row 28 (by decide)).1 (hS.row 28 (by decide)).2.1 (hS.row 28 (by decide)).2.2.choose_spec rfl rfl rfl rfl (Nat.le_of_ble_eq_true rfl) d_S_endWord_62 ⟨by have a := hP.2; have b := hx; show _ + 20 ≤ 120 + (2663816 - ph) / 16; omega, by have a := hP.1; have b := hx; show _ + 700000 ≤ 700000 + (2663816 - ph); omega⟩ (fun rv d2 lo8 va8 kc8 ns8 hp => ?_)
          obtain ⟨rfl, rfl, ⟨nl8, ph8, hS8, hm8, hp8⟩, hf8⟩ := hp
          show V X D CL A _ _ _ _ _ _ _ []
          have hP8 : (0 + ns8) + ph ≤ ph8 ∧ 16 * (0 + kc8) + ph ≤ ph8 := ⟨by have a := hP.1; have b := hp8.1; omega, by have a := hP.2; have b := hp8.2; omega⟩
          have hx8 : ph8 ≤ 2663816 := hS8.phi
          have hn8 : nl ≤ nl8 := Nat.le_trans (Nat.le_refl nl) hm8
          refine v_aload_n hX d_S_endWord_65 rfl rfl ?_
          refine v_get hX 2 (v := .ref (ob 28)) inT2 hS8.set.1 hS8.set.2.1 hS8.set.2.2 rfl 5 (by decide) fl_S_34 rfl rfl d_S_endWord_66 ?_
          refine v_aload_n hX d_S_endWord_69 rfl rfl ?_
          refine v_get hX 2 (v := .ref (ob 26)) inT2 hS8.set.1 hS8.set.2.1 hS8.set.2.2 rfl 4 (by decide) fl_S_31 rfl rfl d_S_endWord_70 ?_
          refine c_V hX 28 (rest := []) hl (S_all hS8 (by omega)) ml_S_152 im_R_addAll se_R_addAll in_R cd_R_addAll rfl q_R_addAll ⟨(Nat.le_of_ble_eq_true rfl), (Nat.le_of_ble_eq_true rfl)⟩ (hS8.row 28 (by decide)).1 (hS8.row 28 (by decide)).2.1 (hS8.row 28 (by decide)).2.2.choose_spec rfl rfl rfl rfl (Nat.le_of_ble_eq_true rfl) d_S_endWord_73 ⟨by have a := hP8.2; have b := hx8; show _ + 20 ≤ 120 + (2663816 - ph) / 16; omega, by have a := hP8.1; have b := hx8; show _ + 700000 ≤ 700000 + (2663816 - ph); omega⟩ (fun rv d2 lo9 va9 kc9 ns9 hp => ?_)
          obtain ⟨rfl, rfl, ⟨nl9, ph9, hS9, hm9, hp9⟩, hf9⟩ := hp
          show V X D CL A _ _ _ _ _ _ _ []
          have hP9 : (0 + ns8 + ns9) + ph ≤ ph9 ∧ 16 * (0 + kc8 + kc9) + ph ≤ ph9 := ⟨by have a := hP8.1; have b := hp9.1; omega, by have a := hP8.2; have b := hp9.2; omega⟩
          have hx9 : ph9 ≤ 2663816 := hS9.phi
          have hn9 : nl ≤ nl9 := Nat.le_trans hn8 hm9
          refine v_aload_n hX d_S_endWord_76 rfl rfl ?_
          refine v_get hX 2 (v := .ref (ob 26)) inT2 hS9.set.1 hS9.set.2.1 hS9.set.2.2 rfl 4 (by decide) fl_S_31 rfl rfl d_S_endWord_77 ?_
          refine v_iconst (v := 0) hX d_S_endWord_80 (by decide) ?_
          refine c_V hX 26 (rest := []) hl (S_cut26 hS9) ml_S_156 im_R_cut se_R_cut in_R cd_R_cut rfl q_R_cut ⟨(Nat.le_of_ble_eq_true rfl), (Nat.le_of_ble_eq_true rfl)⟩ (hS9.row 26 (by decide)).1 (hS9.row 26 (by decide)).2.1 (hS9.row 26 (by decide)).2.2.choose_spec rfl rfl rfl rfl (Nat.le_of_ble_eq_true rfl) d_S_endWord_81 ⟨by have a := hP9.2; have b := hx9; show _ + 100 ≤ 120 + (2663816 - ph) / 16; omega, by have a := hP9.1; have b := hx9; show _ + 200000 ≤ 700000 + (2663816 - ph); omega⟩ (fun rv d2 lo10 va10 kc10 ns10 hp => ?_)
          obtain ⟨rfl, rfl, ⟨nl10, ph10, hS10, hm10, hp10⟩, hf10⟩ := hp
          show V X D CL A _ _ _ _ _ _ _ []
          have hP10 : (0 + ns8 + ns9 + ns10) + ph ≤ ph10 ∧ 16 * (0 + kc8 + kc9 + kc10) + ph ≤ ph10 := ⟨by have a := hP9.1; have b := hp10.1; omega, by have a := hP9.2; have b := hp10.2; omega⟩
          have hx10 : ph10 ≤ 2663816 := hS10.phi
          have hn10 : nl ≤ nl10 := Nat.le_trans hn9 hm10
          exact v_vret hX hE d_S_endWord_84 (by have a := hP10.2; have b := hx10; show _ ≤ 120 + (2663816 - ph) / 16; omega) (by have a := hP10.1; have b := hx10; show _ ≤ 700000 + (2663816 - ph); omega) ⟨rfl, rfl, ⟨((c + 1) + w), nl10, ph10, by omega, hS10, hn10, by have a := hP10.1; have b := hP10.2; exact ⟨by omega, by omega⟩⟩, (((frL.rf.trans hf8).trans hf9).trans hf10)⟩
      · have f39 : ¬ ((c + 1) + w) ≤ wd := fun z => c39 ((nI_leI (a := ((c + 1) + w)) (b := wd) (by omega) (by omega)).mpr z)
        refine v_aload_n hX d_S_endWord_42 rfl rfl ?_
        refine c_V hX 2 (rest := []) hl (c_S_putLine hS (by omega) (by omega)) ml_S_122 im_S_putLine se_S_putLine in_S cd_S_putLine rfl q_S_putLine ⟨(Nat.le_of_ble_eq_true rfl), (Nat.le_of_ble_eq_true rfl)⟩ hS.set.1 hS.set.2.1 hS.set.2.2 rfl rfl rfl rfl (Nat.le_of_ble_eq_true rfl) d_S_endWord_43 ⟨by have a := hP.2; have b := hx; show _ + (120 + (2663816 - ph) / 16) ≤ 120 + (2663816 - ph) / 16; omega, by have a := hP.1; have b := hx; show _ + (700000 + (2663816 - ph)) ≤ 700000 + (2663816 - ph); omega⟩ (fun rv d2 lo11 va11 kc11 ns11 hp => ?_)
        obtain ⟨rfl, rfl, ⟨nl11, ph11, hS11, hm11, hp11⟩, hf11⟩ := hp
        show V X D CL A _ _ _ _ _ _ _ []
        have hP11 : (0 + ns11) + ph ≤ ph11 ∧ 16 * (0 + kc11) + ph ≤ ph11 := ⟨by have a := hP.1; have b := hp11.1; omega, by have a := hP.2; have b := hp11.2; omega⟩
        have hx11 : ph11 ≤ 2663816 := hS11.phi
        have hn11 : nl ≤ nl11 := Nat.le_trans (Nat.le_refl nl) hm11
        refine v_aload_n hX d_S_endWord_46 rfl rfl ?_
        refine v_get hX 2 (v := .ref (ob 28)) inT2 hS11.set.1 hS11.set.2.1 hS11.set.2.2 rfl 5 (by decide) fl_S_34 rfl rfl d_S_endWord_47 ?_
        refine c_V hX 28 (rest := []) hl (S_size28 hS11) ml_S_129 im_R_size se_R_size in_R cd_R_size rfl q_R_size ⟨(Nat.le_of_ble_eq_true rfl), (Nat.le_of_ble_eq_true rfl)⟩ (hS11.row 28 (by decide)).1 (hS11.row 28 (by decide)).2.1 (hS11.row 28 (by decide)).2.2.choose_spec rfl rfl rfl rfl (Nat.le_of_ble_eq_true rfl) d_S_endWord_50 ⟨by have a := hP11.2; have b := hx11; show _ + 100 ≤ 120 + (2663816 - ph) / 16; omega, by have a := hP11.1; have b := hx11; show _ + 200000 ≤ 700000 + (2663816 - ph); omega⟩ (fun rv d2 lo2 va2 kc ns hp => ?_)
        obtain ⟨rfl, rfl, rfl, rfl, rfl, rfl⟩ := hp
        show V X D CL A _ _ _ _ _ _ _ (.int (nI 0) :: [])
        refine v_if_le hX d_S_endWord_53 (tgt := 65) (by decide) (fun c53 => ?_) (fun c53 => ?_)
        · have f53 : 0 ≤ 0 := (nI_leI (a := 0) (b := 0) (by omega) (by omega)).mp c53
          refine v_aload_n hX d_S_endWord_65 rfl rfl ?_
          refine v_get hX 2 (v := .ref (ob 28)) inT2 hS11.set.1 hS11.set.2.1 hS11.set.2.2 rfl 5 (by decide) fl_S_34 rfl rfl d_S_endWord_66 ?_
          refine v_aload_n hX d_S_endWord_69 rfl rfl ?_
          refine v_get hX 2 (v := .ref (ob 26)) inT2 hS11.set.1 hS11.set.2.1 hS11.set.2.2 rfl 4 (by decide) fl_S_31 rfl rfl d_S_endWord_70 ?_
          refine c_V hX 28 (rest := []) hl (S_all hS11 (by omega)) ml_S_152 im_R_addAll se_R_addAll in_R cd_R_addAll rfl q_R_addAll ⟨(Nat.le_of_ble_eq_true rfl), (Nat.le_of_ble_eq_true rfl)⟩ (hS11.row 28 (by decide)).1 (hS11.row 28 (by decide)).2.1 (hS11.row 28 (by decide)).2.2.choose_spec rfl rfl rfl rfl (Nat.le_of_ble_eq_true rfl) d_S_endWord_73 ⟨by have a := hP11.2; have b := hx11; show _ + 20 ≤ 120 + (2663816 - ph) / 16; omega, by have a := hP11.1; have b := hx11; show _ + 700000 ≤ 700000 + (2663816 - ph); omega⟩ (fun rv d2 lo12 va12 kc12 ns12 hp => ?_)
          obtain ⟨rfl, rfl, ⟨nl12, ph12, hS12, hm12, hp12⟩, hf12⟩ := hp
          show V X D CL A _ _ _ _ _ _ _ []
          have hP12 : (0 + ns11 + ns12) + ph ≤ ph12 ∧ 16 * (0 + kc11 + kc12) + ph ≤ ph12 := ⟨by have a := hP11.1; have b := hp12.1; omega, by have a := hP11.2; have b := hp12.2; omega⟩
          have hx12 : ph12 ≤ 2663816 := hS12.phi
          have hn12 : nl ≤ nl12 := Nat.le_trans hn11 hm12
          refine v_aload_n hX d_S_endWord_76 rfl rfl ?_
          refine v_get hX 2 (v := .ref (ob 26)) inT2 hS12.set.1 hS12.set.2.1 hS12.set.2.2 rfl 4 (by decide) fl_S_31 rfl rfl d_S_endWord_77 ?_
          refine v_iconst (v := 0) hX d_S_endWord_80 (by decide) ?_
          refine c_V hX 26 (rest := []) hl (S_cut26 hS12) ml_S_156 im_R_cut se_R_cut in_R cd_R_cut rfl q_R_cut ⟨(Nat.le_of_ble_eq_true rfl), (Nat.le_of_ble_eq_true rfl)⟩ (hS12.row 26 (by decide)).1 (hS12.row 26 (by decide)).2.1 (hS12.row 26 (by decide)).2.2.choose_spec rfl rfl rfl rfl (Nat.le_of_ble_eq_true rfl) d_S_endWord_81 ⟨by have a := hP12.2; have b := hx12; show _ + 100 ≤ 120 + (2663816 - ph) / 16; omega, by have a := hP12.1; have b := hx12; show _ + 200000 ≤ 700000 + (2663816 - ph); omega⟩ (fun rv d2 lo13 va13 kc13 ns13 hp => ?_)
          obtain ⟨rfl, rfl, ⟨nl13, ph13, hS13, hm13, hp13⟩, hf13⟩ := hp
          show V X D CL A _ _ _ _ _ _ _ []
          have hP13 : (0 + ns11 + ns12 + ns13) + ph ≤ ph13 ∧ 16 * (0 + kc11 + kc12 + kc13) + ph ≤ ph13 := ⟨by have a := hP12.1; have b := hp13.1; omega, by have a := hP12.2; have b := hp13.2; omega⟩
          have hx13 : ph13 ≤ 2663816 := hS13.phi
          have hn13 : nl ≤ nl13 := Nat.le_trans hn12 hm13
          exact v_vret hX hE d_S_endWord_84 (by have a := hP13.2; have b := hx13; show _ ≤ 120 + (2663816 - ph) / 16; omega) (by have a := hP13.1; have b := hx13; show _ ≤ 700000 + (2663816 - ph); omega) ⟨rfl, rfl, ⟨(0 + w), nl13, ph13, by omega, hS13, hn13, by have a := hP13.1; have b := hP13.2; exact ⟨by omega, by omega⟩⟩, (((frL.rf.trans hf11).trans hf12).trans hf13)⟩
        · have f53 : ¬ 0 ≤ 0 := fun z => c53 ((nI_leI (a := 0) (b := 0) (by omega) (by omega)).mpr z)
          refine v_aload_n hX d_S_endWord_56 rfl rfl ?_
          refine v_get hX 2 (v := .ref (ob 28)) inT2 hS11.set.1 hS11.set.2.1 hS11.set.2.2 rfl 5 (by decide) fl_S_34 rfl rfl d_S_endWord_57 ?_
          refine v_bipush (v := 32) hX d_S_endWord_60 (by decide) ?_
          refine c_V hX 28 (rest := []) hl (S_add28 hS11 32 (by omega)) ml_S_119 im_R_add se_R_add in_R cd_R_add rfl q_R_add ⟨(Nat.le_of_ble_eq_true rfl), (Nat.le_of_ble_eq_true rfl)⟩ (hS11.row 28 (by decide)).1 (hS11.row 28 (by decide)).2.1 (hS11.row 28 (by decide)).2.2.choose_spec rfl rfl rfl rfl (Nat.le_of_ble_eq_true rfl) d_S_endWord_62 ⟨by have a := hP11.2; have b := hx11; show _ + 20 ≤ 120 + (2663816 - ph) / 16; omega, by have a := hP11.1; have b := hx11; show _ + 700000 ≤ 700000 + (2663816 - ph); omega⟩ (fun rv d2 lo14 va14 kc14 ns14 hp => ?_)
          obtain ⟨rfl, rfl, ⟨nl14, ph14, hS14, hm14, hp14⟩, hf14⟩ := hp
          show V X D CL A _ _ _ _ _ _ _ []
          have hP14 : (0 + ns11 + ns14) + ph ≤ ph14 ∧ 16 * (0 + kc11 + kc14) + ph ≤ ph14 := ⟨by have a := hP11.1; have b := hp14.1; omega, by have a := hP11.2; have b := hp14.2; omega⟩
          have hx14 : ph14 ≤ 2663816 := hS14.phi
          have hn14 : nl ≤ nl14 := Nat.le_trans hn11 hm14
          refine v_aload_n hX d_S_endWord_65 rfl rfl ?_
          refine v_get hX 2 (v := .ref (ob 28)) inT2 hS14.set.1 hS14.set.2.1 hS14.set.2.2 rfl 5 (by decide) fl_S_34 rfl rfl d_S_endWord_66 ?_
          refine v_aload_n hX d_S_endWord_69 rfl rfl ?_
          refine v_get hX 2 (v := .ref (ob 26)) inT2 hS14.set.1 hS14.set.2.1 hS14.set.2.2 rfl 4 (by decide) fl_S_31 rfl rfl d_S_endWord_70 ?_
          refine c_V hX 28 (rest := []) hl (S_all hS14 (by omega)) ml_S_152 im_R_addAll se_R_addAll in_R cd_R_addAll rfl q_R_addAll ⟨(Nat.le_of_ble_eq_true rfl), (Nat.le_of_ble_eq_true rfl)⟩ (hS14.row 28 (by decide)).1 (hS14.row 28 (by decide)).2.1 (hS14.row 28 (by decide)).2.2.choose_spec rfl rfl rfl rfl (Nat.le_of_ble_eq_true rfl) d_S_endWord_73 ⟨by have a := hP14.2; have b := hx14; show _ + 20 ≤ 120 + (2663816 - ph) / 16; omega, by have a := hP14.1; have b := hx14; show _ + 700000 ≤ 700000 + (2663816 - ph); omega⟩ (fun rv d2 lo15 va15 kc15 ns15 hp => ?_)
          obtain ⟨rfl, rfl, ⟨nl15, ph15, hS15, hm15, hp15⟩, hf15⟩ := hp
          show V X D CL A _ _ _ _ _ _ _ []
          have hP15 : (0 + ns11 + ns14 + ns15) + ph ≤ ph15 ∧ 16 * (0 + kc11 + kc14 + kc15) + ph ≤ ph15 := ⟨by have a := hP14.1; have b := hp15.1; omega, by have a := hP14.2; have b := hp15.2; omega⟩
          have hx15 : ph15 ≤ 2663816 := hS15.phi
          have hn15 : nl ≤ nl15 := Nat.le_trans hn14 hm15
          refine v_aload_n hX d_S_endWord_76 rfl rfl ?_
          refine v_get hX 2 (v := .ref (ob 26)) inT2 hS15.set.1 hS15.set.2.1 hS15.set.2.2 rfl 4 (by decide) fl_S_31 rfl rfl d_S_endWord_77 ?_
          refine v_iconst (v := 0) hX d_S_endWord_80 (by decide) ?_
          refine c_V hX 26 (rest := []) hl (S_cut26 hS15) ml_S_156 im_R_cut se_R_cut in_R cd_R_cut rfl q_R_cut ⟨(Nat.le_of_ble_eq_true rfl), (Nat.le_of_ble_eq_true rfl)⟩ (hS15.row 26 (by decide)).1 (hS15.row 26 (by decide)).2.1 (hS15.row 26 (by decide)).2.2.choose_spec rfl rfl rfl rfl (Nat.le_of_ble_eq_true rfl) d_S_endWord_81 ⟨by have a := hP15.2; have b := hx15; show _ + 100 ≤ 120 + (2663816 - ph) / 16; omega, by have a := hP15.1; have b := hx15; show _ + 200000 ≤ 700000 + (2663816 - ph); omega⟩ (fun rv d2 lo16 va16 kc16 ns16 hp => ?_)
          obtain ⟨rfl, rfl, ⟨nl16, ph16, hS16, hm16, hp16⟩, hf16⟩ := hp
          show V X D CL A _ _ _ _ _ _ _ []
          have hP16 : (0 + ns11 + ns14 + ns15 + ns16) + ph ≤ ph16 ∧ 16 * (0 + kc11 + kc14 + kc15 + kc16) + ph ≤ ph16 := ⟨by have a := hP15.1; have b := hp16.1; omega, by have a := hP15.2; have b := hp16.2; omega⟩
          have hx16 : ph16 ≤ 2663816 := hS16.phi
          have hn16 : nl ≤ nl16 := Nat.le_trans hn15 hm16
          exact v_vret hX hE d_S_endWord_84 (by have a := hP16.2; have b := hx16; show _ ≤ 120 + (2663816 - ph) / 16; omega) (by have a := hP16.1; have b := hx16; show _ ≤ 700000 + (2663816 - ph); omega) ⟨rfl, rfl, ⟨((0 + 1) + w), nl16, ph16, by omega, hS16, hn16, by have a := hP16.1; have b := hP16.2; exact ⟨by omega, by omega⟩⟩, ((((frL.rf.trans hf11).trans hf14).trans hf15).trans hf16)⟩
  · have f7 : w = 0 := (nI_eq (a := w) (b := 0) (by omega) (by omega)).mp c7
    exact v_vret hX hE d_S_endWord_10 (by have a := hP.2; have b := hx; show _ ≤ 120 + (2663816 - ph) / 16; omega) (by have a := hP.1; have b := hx; show _ ≤ 700000 + (2663816 - ph); omega) ⟨rfl, rfl, ⟨c, nl, ph, by omega, (by have e9 : w = 0 := (by omega); subst e9; exact hS), (Nat.le_refl nl), by have a := hP.1; have b := hP.2; exact ⟨by omega, by omega⟩⟩, frL.rf⟩
