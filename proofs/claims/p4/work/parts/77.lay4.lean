set_option maxHeartbeats 4000000 in
set_option maxRecDepth 100000 in
theorem c_S_layPart {l : Launch} {D : va_G} {A : Nat → Prop} {cI cB cZ cJ cN : ClassId} {ob : Nat → Nat} {td a nl pf tl ph : Nat} {dom : Nat → Prop} {loc : Nat → Nat} {val : Nat → va_E} (hS : LayS cI ob td 0 0 a a nl pf tl ph dom loc val) {T : TR} {n : Nat} (hN : NodesI ob T n dom loc val) (hT : TreeI T n) (k : Nat) (H : KLP l D A cI cB cZ cJ cN ob T n td pf tl dom k) {i j : Nat} (hi : i < n) (hj : j < n) (hd : 13 ≤ tD T i + k) {wd : Nat} (hwd : 4 ≤ wd ∧ wd ≤ 60) (ha : a + 12 * (13 - tD T i) ≤ 144) : kM l y_S_layPart (Cond.code y_S_layPart b_S_layPart 5 none :: TT) (rmP (13 + 4 * k) ph) D CL (TY cI cB cZ cJ cN) A [.ref (ob 2), .ref (ob (1000 + i)), .ref (ob (1000 + j)), .int (nI wd)] dom loc val (PSn cI ob T n td a nl pf tl ph dom loc val) := by
  refine kM_of (lv0 := [some (.ref (ob 2)), some (.ref (ob (1000 + i))), some (.ref (ob (1000 + j))), some (.int (nI wd)), none]) (own := "ProsePages$Setter") (by decide) rfl (List.forall_mem_cons.mpr ⟨rfl, List.forall_mem_cons.mpr ⟨rfl, List.forall_mem_cons.mpr ⟨rfl, List.forall_mem_cons.mpr ⟨rfl, fun _ h => nomatch h⟩⟩⟩⟩) (Nat.le_of_ble_eq_true rfl) rfl (Nat.le_of_ble_eq_true rfl) (fun X hl hX hE hin0 => ?_)
  have hP : 0 + ph ≤ ph ∧ 16 * 0 + ph ≤ ph := ⟨by omega, by omega⟩
  have hx : ph ≤ 2663816 := hS.phi
  have hz := hS.hnl
  have hdd := (hT.2.2 i hi).2
  refine v_aload_n hX d_S_layPart_0 rfl rfl ?_
  refine v_astore (lv' := [some (.ref (ob 2)), some (.ref (ob (1000 + i))), some (.ref (ob (1000 + j))), some (.int (nI wd)), some (.ref (ob (1000 + i)))]) hX d_S_layPart_1 (Nat.le_of_ble_eq_true rfl) rfl ?_
  have j39 : ∀ (o4 : Option Value) (vaL : Nat → va_E), LayS cI ob td 0 0 a a nl pf tl ph dom loc vaL → NodesI ob T n dom loc vaL → frN loc val loc vaL → V X D CL A dom loc vaL 0 0 39 [some (.ref (ob 2)), some (.ref (ob (1000 + i))), some (.ref (ob (1000 + j))), some (.int (nI wd)), o4] [] := by
    intro o4 vaL hSL hNL hfL
    refine v_aload_n hX d_S_layPart_39 rfl rfl ?_
    refine v_get hX (1000 + i) (v := .int (tK T i)) inT0 (hNL.2 i hi).1 (hNL.2 i hi).2.1 (hNL.2 i hi).2.2.choose_spec.choose_spec.choose_spec.choose_spec rfl 1 (by decide) fl_S_41 rfl rfl d_S_layPart_40 ?_
    by_cases hw : ((tK T i)).toInt < 1 ∨ 6 < ((tK T i)).toInt
    · refine v_tableOut hX d_S_layPart_43 (tgt := 166) hw (by decide) ?_
      refine v_aload_n hX d_S_layPart_166 rfl rfl ?_
      refine v_aload_n hX d_S_layPart_167 rfl rfl ?_
      refine v_get hX (1000 + i) (v := .int ((hNL.2 i hi).2.2.choose)) inT0 (hNL.2 i hi).1 (hNL.2 i hi).2.1 (hNL.2 i hi).2.2.choose_spec.choose_spec.choose_spec.choose_spec rfl 4 (by decide) fl_S_83 rfl rfl d_S_layPart_168 ?_
      refine v_aload_n hX d_S_layPart_171 rfl rfl ?_
      refine v_get hX (1000 + j) (v := .int ((hNL.2 j hj).2.2.choose_spec.choose)) inT0 (hNL.2 j hj).1 (hNL.2 j hj).2.1 (hNL.2 j hj).2.2.choose_spec.choose_spec.choose_spec.choose_spec rfl 5 (by decide) fl_S_86 rfl rfl d_S_layPart_172 ?_
      refine v_iload_n hX d_S_layPart_175 rfl rfl ?_
      refine c_V hX 2 (rest := []) hl (c_S_layWords hSL ((hNL.2 i hi).2.2.choose) ((hNL.2 j hj).2.2.choose_spec.choose) hwd (by omega) (by omega) (by omega)) ml_S_89 im_S_layWords se_S_layWords in_S cd_S_layWords rfl q_S_layWords ⟨Nat.le_trans (m := 200) (Nat.le_of_ble_eq_true rfl) (by show 200 ≤ 20 * (13 + 4 * k) + 20; omega), Nat.le_trans (m := 3400) (Nat.le_of_ble_eq_true rfl) (by show 3400 ≤ 300 * (13 + 4 * k) + 600; omega)⟩ hSL.set.1 hSL.set.2.1 hSL.set.2.2 rfl rfl rfl rfl (Nat.le_of_ble_eq_true rfl) d_S_layPart_176 ⟨by have a := hP.2; have b := hx; show _ + (120 + (2663816 - ph) / 16) ≤ 120 + (2663816 - ph) / 16; omega, by have a := hP.1; have b := hx; show _ + (700000 + (2663816 - ph)) ≤ 700000 + (2663816 - ph); omega⟩ (fun rv d2 lo1 va1 kc1 ns1 hp => ?_)
      obtain ⟨rfl, rfl, ⟨nl1, ph1, hS1, hm1, hp1⟩, hf1⟩ := hp
      show V X D CL A _ _ _ _ _ _ _ []
      have hP1 : (0 + ns1) + ph ≤ ph1 ∧ 16 * (0 + kc1) + ph ≤ ph1 := ⟨by have a := hP.1; have b := hp1.1; omega, by have a := hP.2; have b := hp1.2; omega⟩
      have hx1 : ph1 ≤ 2663816 := hS1.phi
      have hn1 : nl ≤ nl1 := Nat.le_trans (Nat.le_refl nl) hm1
      have hN1 := hNL.fr hf1
      have hz1 := hS1.hnl
      exact v_vret hX hE d_S_layPart_179 (by have a := hP1.2; have b := hx1; show _ ≤ 120 + (2663816 - ph) / 16; omega) (by have a := hP1.1; have b := hx1; show _ ≤ 700000 + (2663816 - ph); omega) ⟨rfl, rfl, ⟨nl1, ph1, hS1, hn1, by have a := hP1.1; have b := hP1.2; exact ⟨by omega, by omega⟩⟩, hN1, (hfL.trans hf1.toN)⟩
    · have hk9 : ((tK T i)).toInt = 1 ∨ ((tK T i)).toInt = 2 ∨ ((tK T i)).toInt = 3 ∨ ((tK T i)).toInt = 4 ∨ ((tK T i)).toInt = 5 ∨ ((tK T i)).toInt = 6 := by omega
      rcases hk9 with hk9 | hk9 | hk9 | hk9 | hk9 | hk9
      · refine v_tableIn hX d_S_layPart_43 (tgt := 80) (by omega) (by omega) (off := 37) (by rw [hk9]; rfl) (by decide) ?_
        refine v_aload_n hX d_S_layPart_80 rfl rfl ?_
        refine v_aload_n hX d_S_layPart_81 rfl rfl ?_
        refine v_get hX (1000 + i) (v := .int (tV T i)) inT0 (hNL.2 i hi).1 (hNL.2 i hi).2.1 (hNL.2 i hi).2.2.choose_spec.choose_spec.choose_spec.choose_spec rfl 6 (by decide) fl_S_76 rfl rfl d_S_layPart_82 ?_
        refine v_iload_n hX d_S_layPart_85 rfl rfl ?_
        refine c_V hX 2 (rest := []) hl (c_S_headSign hSL (tV T i) hwd (by omega) (by omega) (by omega)) ml_S_79 im_S_addHeadingSign se_S_addHeadingSign in_S cd_S_addHeadingSign rfl q_S_addHeadingSign ⟨Nat.le_trans (m := 200) (Nat.le_of_ble_eq_true rfl) (by show 200 ≤ 20 * (13 + 4 * k) + 20; omega), Nat.le_trans (m := 3400) (Nat.le_of_ble_eq_true rfl) (by show 3400 ≤ 300 * (13 + 4 * k) + 600; omega)⟩ hSL.set.1 hSL.set.2.1 hSL.set.2.2 rfl rfl rfl rfl (Nat.le_of_ble_eq_true rfl) d_S_layPart_86 ⟨by have a := hP.2; have b := hx; show _ + (120 + (2663816 - ph) / 16) ≤ 120 + (2663816 - ph) / 16; omega, by have a := hP.1; have b := hx; show _ + (700000 + (2663816 - ph)) ≤ 700000 + (2663816 - ph); omega⟩ (fun rv d2 lo2 va2 kc2 ns2 hp => ?_)
        obtain ⟨rfl, rfl, ⟨cc2, nl2, ph2, hc2, hS2, hm2, hp2⟩, hf2⟩ := hp
        show V X D CL A _ _ _ _ _ _ _ []
        have hP2 : (0 + ns2) + ph ≤ ph2 ∧ 16 * (0 + kc2) + ph ≤ ph2 := ⟨by have a := hP.1; have b := hp2.1; omega, by have a := hP.2; have b := hp2.2; omega⟩
        have hx2 : ph2 ≤ 2663816 := hS2.phi
        have hn2 : nl ≤ nl2 := Nat.le_trans (Nat.le_refl nl) hm2
        have hN2 := hNL.fr hf2
        have hz2 := hS2.hnl
        refine v_aload_n hX d_S_layPart_89 rfl rfl ?_
        refine v_aload_n hX d_S_layPart_90 rfl rfl ?_
        refine v_get hX (1000 + i) (v := .int ((hN2.2 i hi).2.2.choose)) inT0 (hN2.2 i hi).1 (hN2.2 i hi).2.1 (hN2.2 i hi).2.2.choose_spec.choose_spec.choose_spec.choose_spec rfl 4 (by decide) fl_S_83 rfl rfl d_S_layPart_91 ?_
        refine v_aload_n hX d_S_layPart_94 rfl rfl ?_
        refine v_get hX (1000 + i) (v := .int ((hN2.2 i hi).2.2.choose_spec.choose)) inT0 (hN2.2 i hi).1 (hN2.2 i hi).2.1 (hN2.2 i hi).2.2.choose_spec.choose_spec.choose_spec.choose_spec rfl 5 (by decide) fl_S_86 rfl rfl d_S_layPart_95 ?_
        refine v_iload_n hX d_S_layPart_98 rfl rfl ?_
        refine c_V hX 2 (rest := []) hl (c_S_layWords hS2 ((hN2.2 i hi).2.2.choose) ((hN2.2 i hi).2.2.choose_spec.choose) hwd (by omega) (by omega) (by omega)) ml_S_89 im_S_layWords se_S_layWords in_S cd_S_layWords rfl q_S_layWords ⟨Nat.le_trans (m := 200) (Nat.le_of_ble_eq_true rfl) (by show 200 ≤ 20 * (13 + 4 * k) + 20; omega), Nat.le_trans (m := 3400) (Nat.le_of_ble_eq_true rfl) (by show 3400 ≤ 300 * (13 + 4 * k) + 600; omega)⟩ hS2.set.1 hS2.set.2.1 hS2.set.2.2 rfl rfl rfl rfl (Nat.le_of_ble_eq_true rfl) d_S_layPart_99 ⟨by have a := hP2.2; have b := hx2; show _ + (120 + (2663816 - ph2) / 16) ≤ 120 + (2663816 - ph) / 16; omega, by have a := hP2.1; have b := hx2; show _ + (700000 + (2663816 - ph2)) ≤ 700000 + (2663816 - ph); omega⟩ (fun rv d2 lo3 va3 kc3 ns3 hp => ?_)
        obtain ⟨rfl, rfl, ⟨nl3, ph3, hS3, hm3, hp3⟩, hf3⟩ := hp
        show V X D CL A _ _ _ _ _ _ _ []
        have hP3 : (0 + ns2 + ns3) + ph ≤ ph3 ∧ 16 * (0 + kc2 + kc3) + ph ≤ ph3 := ⟨by have a := hP2.1; have b := hp3.1; omega, by have a := hP2.2; have b := hp3.2; omega⟩
        have hx3 : ph3 ≤ 2663816 := hS3.phi
        have hn3 : nl ≤ nl3 := Nat.le_trans hn2 hm3
        have hN3 := hN2.fr hf3
        have hz3 := hS3.hnl
        refine v_aload_n hX d_S_layPart_102 rfl rfl ?_
        refine v_get hX 2 (v := .ref (ob td)) inT2 hS3.set.1 hS3.set.2.1 hS3.set.2.2 rfl 1 (by decide) fl_S_21 rfl rfl d_S_layPart_103 ?_
        refine v_get hX td (v := .ref (ob (td + 9))) inT3 (hS3.sheet).choose_spec.1 (hS3.sheet).choose_spec.2.1 (hS3.sheet).choose_spec.2.2 rfl 4 (by decide) fl_S_93 rfl rfl d_S_layPart_106 ?_
        refine v_aload_n hX d_S_layPart_109 rfl rfl ?_
        refine v_get hX (1000 + i) (v := .int ((hN3.2 i hi).2.2.choose_spec.choose_spec.choose)) inT0 (hN3.2 i hi).1 (hN3.2 i hi).2.1 (hN3.2 i hi).2.2.choose_spec.choose_spec.choose_spec.choose_spec rfl 10 (by decide) fl_S_73 rfl rfl d_S_layPart_110 ?_
        refine v_aload_n hX d_S_layPart_113 rfl rfl ?_
        refine v_get hX 2 (v := .ref (ob td)) inT2 hS3.set.1 hS3.set.2.1 hS3.set.2.2 rfl 1 (by decide) fl_S_21 rfl rfl d_S_layPart_114 ?_
        refine c_V hX td (rest := [.int ((hN3.2 i hi).2.2.choose_spec.choose_spec.choose), .ref (ob (td + 9))]) hl (S_lines hS3) ml_S_37 im_T_lineCount se_T_lineCount in_T cd_T_lineCount rfl q_T_lineCount ⟨Nat.le_trans (m := 200) (Nat.le_of_ble_eq_true rfl) (by show 200 ≤ 20 * (13 + 4 * k) + 20; omega), Nat.le_trans (m := 3400) (Nat.le_of_ble_eq_true rfl) (by show 3400 ≤ 300 * (13 + 4 * k) + 600; omega)⟩ (hS3.sheet).choose_spec.1 (hS3.sheet).choose_spec.2.1 (hS3.sheet).choose_spec.2.2 rfl rfl rfl rfl (Nat.le_of_ble_eq_true rfl) d_S_layPart_117 ⟨by have a := hP3.2; have b := hx3; show _ + (120 + (2663816 - ph3) / 16) ≤ 120 + (2663816 - ph) / 16; omega, by have a := hP3.1; have b := hx3; show _ + (700000 + (2663816 - ph3)) ≤ 700000 + (2663816 - ph); omega⟩ (fun rv d2 lo2 va2 kc ns hp => ?_)
        obtain ⟨rfl, rfl, rfl, rfl, rfl, rfl⟩ := hp
        show V X D CL A _ _ _ _ _ _ _ (.int (nI nl3) :: [.int ((hN3.2 i hi).2.2.choose_spec.choose_spec.choose), .ref (ob (td + 9))])
        refine v_aload_n hX d_S_layPart_120 rfl rfl ?_
        refine v_get hX (1000 + i) (v := .int ((hN3.2 i hi).2.2.choose_spec.choose_spec.choose)) inT0 (hN3.2 i hi).1 (hN3.2 i hi).2.1 (hN3.2 i hi).2.2.choose_spec.choose_spec.choose_spec.choose_spec rfl 10 (by decide) fl_S_73 rfl rfl d_S_layPart_121 ?_
        refine v_isub hX d_S_layPart_124 ?_
        refine c_V hX (td + 9) (rest := []) hl (S_head hS3 ((hN3.2 i hi).2.2.choose_spec.choose_spec.choose) ((nI nl3) - ((hN3.2 i hi).2.2.choose_spec.choose_spec.choose))) ml_S_96 im_R_set se_R_set in_R cd_R_set rfl q_R_set ⟨Nat.le_trans (m := 200) (Nat.le_of_ble_eq_true rfl) (by show 200 ≤ 20 * (13 + 4 * k) + 20; omega), Nat.le_trans (m := 3400) (Nat.le_of_ble_eq_true rfl) (by show 3400 ≤ 300 * (13 + 4 * k) + 600; omega)⟩ (hS3.row (td + 9) (shRK hS3.htd 4 (by decide))).1 (hS3.row (td + 9) (shRK hS3.htd 4 (by decide))).2.1 (hS3.row (td + 9) (shRK hS3.htd 4 (by decide))).2.2.choose_spec rfl rfl rfl rfl (Nat.le_of_ble_eq_true rfl) d_S_layPart_125 ⟨by have a := hP3.2; have b := hx3; show _ + 100 ≤ 120 + (2663816 - ph) / 16; omega, by have a := hP3.1; have b := hx3; show _ + 200000 ≤ 700000 + (2663816 - ph); omega⟩ (fun rv d2 lo4 va4 kc4 ns4 hp => ?_)
        obtain ⟨rfl, rfl, ⟨nl4, ph4, hS4, hm4, hp4⟩, hf4⟩ := hp
        show V X D CL A _ _ _ _ _ _ _ []
        have hP4 : (0 + ns2 + ns3 + ns4) + ph ≤ ph4 ∧ 16 * (0 + kc2 + kc3 + kc4) + ph ≤ ph4 := ⟨by have a := hP3.1; have b := hp4.1; omega, by have a := hP3.2; have b := hp4.2; omega⟩
        have hx4 : ph4 ≤ 2663816 := hS4.phi
        have hn4 : nl ≤ nl4 := Nat.le_trans hn3 hm4
        have hN4 := hN3.fr hf4
        have hz4 := hS4.hnl
        refine v_goto hX d_S_layPart_128 (tgt := 179) (by decide) ?_
        exact v_vret hX hE d_S_layPart_179 (by have a := hP4.2; have b := hx4; show _ ≤ 120 + (2663816 - ph) / 16; omega) (by have a := hP4.1; have b := hx4; show _ ≤ 700000 + (2663816 - ph); omega) ⟨rfl, rfl, ⟨nl4, ph4, hS4, hn4, by have a := hP4.1; have b := hP4.2; exact ⟨by omega, by omega⟩⟩, hN4, (((hfL.trans hf2.toN).trans hf3.toN).trans hf4.toN)⟩
      · refine v_tableIn hX d_S_layPart_43 (tgt := 131) (by omega) (by omega) (off := 88) (by rw [hk9]; rfl) (by decide) ?_
        refine v_aload_n hX d_S_layPart_131 rfl rfl ?_
        refine v_iload_n hX d_S_layPart_132 rfl rfl ?_
        refine c_V hX 2 (rest := []) hl (c_S_layRule (c := 0) hSL hwd (by omega)) ml_S_99 im_S_layRule se_S_layRule in_S cd_S_layRule rfl q_S_layRule ⟨Nat.le_trans (m := 200) (Nat.le_of_ble_eq_true rfl) (by show 200 ≤ 20 * (13 + 4 * k) + 20; omega), Nat.le_trans (m := 3400) (Nat.le_of_ble_eq_true rfl) (by show 3400 ≤ 300 * (13 + 4 * k) + 600; omega)⟩ hSL.set.1 hSL.set.2.1 hSL.set.2.2 rfl rfl rfl rfl (Nat.le_of_ble_eq_true rfl) d_S_layPart_133 ⟨by have a := hP.2; have b := hx; show _ + (120 + (2663816 - ph) / 16) ≤ 120 + (2663816 - ph) / 16; omega, by have a := hP.1; have b := hx; show _ + (700000 + (2663816 - ph)) ≤ 700000 + (2663816 - ph); omega⟩ (fun rv d2 lo5 va5 kc5 ns5 hp => ?_)
        obtain ⟨rfl, rfl, ⟨nl5, ph5, hS5, hm5, hp5⟩, hf5⟩ := hp
        show V X D CL A _ _ _ _ _ _ _ []
        have hP5 : (0 + ns5) + ph ≤ ph5 ∧ 16 * (0 + kc5) + ph ≤ ph5 := ⟨by have a := hP.1; have b := hp5.1; omega, by have a := hP.2; have b := hp5.2; omega⟩
        have hx5 : ph5 ≤ 2663816 := hS5.phi
        have hn5 : nl ≤ nl5 := Nat.le_trans (Nat.le_refl nl) hm5
        have hN5 := hNL.fr hf5
        have hz5 := hS5.hnl
        refine v_goto hX d_S_layPart_136 (tgt := 179) (by decide) ?_
        exact v_vret hX hE d_S_layPart_179 (by have a := hP5.2; have b := hx5; show _ ≤ 120 + (2663816 - ph) / 16; omega) (by have a := hP5.1; have b := hx5; show _ ≤ 700000 + (2663816 - ph); omega) ⟨rfl, rfl, ⟨nl5, ph5, hS5, hn5, by have a := hP5.1; have b := hP5.2; exact ⟨by omega, by omega⟩⟩, hN5, (hfL.trans hf5.toN)⟩
      · refine v_tableIn hX d_S_layPart_43 (tgt := 139) (by omega) (by omega) (off := 96) (by rw [hk9]; rfl) (by decide) ?_
        refine v_aload_n hX d_S_layPart_139 rfl rfl ?_
        refine v_aload_n hX d_S_layPart_140 rfl rfl ?_
        refine v_iload_n hX d_S_layPart_141 rfl rfl ?_
        refine c_V hX 2 (rest := []) hl (c_S_layCode (w := 0) (c := 0) hSL (T := T) (i := i) (Nat.lt_of_lt_of_le hi hNL.1) (hNL.2 i hi).1 (hNL.2 i hi).2.1 (hNL.2 i hi).2.2.choose_spec.choose_spec.choose_spec.choose_spec hwd (by omega)) ml_S_103 im_S_layCode se_S_layCode in_S cd_S_layCode rfl q_S_layCode ⟨Nat.le_trans (m := 200) (Nat.le_of_ble_eq_true rfl) (by show 200 ≤ 20 * (13 + 4 * k) + 20; omega), Nat.le_trans (m := 3400) (Nat.le_of_ble_eq_true rfl) (by show 3400 ≤ 300 * (13 + 4 * k) + 600; omega)⟩ hSL.set.1 hSL.set.2.1 hSL.set.2.2 rfl rfl rfl rfl (Nat.le_of_ble_eq_true rfl) d_S_layPart_142 ⟨by have a := hP.2; have b := hx; show _ + (120 + (2663816 - ph) / 16) ≤ 120 + (2663816 - ph) / 16; omega, by have a := hP.1; have b := hx; show _ + (700000 + (2663816 - ph)) ≤ 700000 + (2663816 - ph); omega⟩ (fun rv d2 lo6 va6 kc6 ns6 hp => ?_)
        obtain ⟨rfl, rfl, ⟨nl6, ph6, hS6, hm6, hp6⟩, hf6⟩ := hp
        show V X D CL A _ _ _ _ _ _ _ []
        have hP6 : (0 + ns6) + ph ≤ ph6 ∧ 16 * (0 + kc6) + ph ≤ ph6 := ⟨by have a := hP.1; have b := hp6.1; omega, by have a := hP.2; have b := hp6.2; omega⟩
        have hx6 : ph6 ≤ 2663816 := hS6.phi
        have hn6 : nl ≤ nl6 := Nat.le_trans (Nat.le_refl nl) hm6
        have hN6 := hNL.fr hf6
        have hz6 := hS6.hnl
        refine v_goto hX d_S_layPart_145 (tgt := 179) (by decide) ?_
        exact v_vret hX hE d_S_layPart_179 (by have a := hP6.2; have b := hx6; show _ ≤ 120 + (2663816 - ph) / 16; omega) (by have a := hP6.1; have b := hx6; show _ ≤ 700000 + (2663816 - ph); omega) ⟨rfl, rfl, ⟨nl6, ph6, hS6, hn6, by have a := hP6.1; have b := hP6.2; exact ⟨by omega, by omega⟩⟩, hN6, (hfL.trans hf6.toN)⟩
      · refine v_tableIn hX d_S_layPart_43 (tgt := 148) (by omega) (by omega) (off := 105) (by rw [hk9]; rfl) (by decide) ?_
        refine v_aload_n hX d_S_layPart_148 rfl rfl ?_
        refine v_aload_n hX d_S_layPart_149 rfl rfl ?_
        refine v_iload_n hX d_S_layPart_150 rfl rfl ?_
        refine c_V hX 2 (rest := []) hl (c_S_layQuote hSL hNL hT k H hi hd hwd (by omega)) ml_S_107 im_S_layQuote se_S_layQuote in_S cd_S_layQuote rfl q_S_layQuote ⟨by show 20 * (11 + 4 * k) + 20 + 1 ≤ 20 * (13 + 4 * k) + 20; omega, by show 8 + (4 + 11) + (300 * (11 + 4 * k) + 600) ≤ 300 * (13 + 4 * k) + 600; omega⟩ hSL.set.1 hSL.set.2.1 hSL.set.2.2 rfl rfl rfl rfl (Nat.le_of_ble_eq_true rfl) d_S_layPart_151 ⟨by have a := hP.2; have b := hx; show _ + (120 + (2663816 - ph) / 16) ≤ 120 + (2663816 - ph) / 16; omega, by have a := hP.1; have b := hx; show _ + (700000 + (2663816 - ph)) ≤ 700000 + (2663816 - ph); omega⟩ (fun rv d2 lo7 va7 kc7 ns7 hp => ?_)
        obtain ⟨rfl, rfl, ⟨nl7, ph7, hS7, hm7, hp7⟩, hN7, hf7⟩ := hp
        show V X D CL A _ _ _ _ _ _ _ []
        have hP7 : (0 + ns7) + ph ≤ ph7 ∧ 16 * (0 + kc7) + ph ≤ ph7 := ⟨by have a := hP.1; have b := hp7.1; omega, by have a := hP.2; have b := hp7.2; omega⟩
        have hx7 : ph7 ≤ 2663816 := hS7.phi
        have hn7 : nl ≤ nl7 := Nat.le_trans (Nat.le_refl nl) hm7
        have hz7 := hS7.hnl
        refine v_goto hX d_S_layPart_154 (tgt := 179) (by decide) ?_
        exact v_vret hX hE d_S_layPart_179 (by have a := hP7.2; have b := hx7; show _ ≤ 120 + (2663816 - ph) / 16; omega) (by have a := hP7.1; have b := hx7; show _ ≤ 700000 + (2663816 - ph); omega) ⟨rfl, rfl, ⟨nl7, ph7, hS7, hn7, by have a := hP7.1; have b := hP7.2; exact ⟨by omega, by omega⟩⟩, hN7, (hfL.trans hf7)⟩
      · refine v_tableIn hX d_S_layPart_43 (tgt := 157) (by omega) (by omega) (off := 114) (by rw [hk9]; rfl) (by decide) ?_
        refine v_aload_n hX d_S_layPart_157 rfl rfl ?_
        refine v_aload_n hX d_S_layPart_158 rfl rfl ?_
        refine v_iload_n hX d_S_layPart_159 rfl rfl ?_
        refine c_V hX 2 (rest := []) hl (c_S_layItems hSL hNL hT k H hi (by omega) hwd (by omega)) ml_S_110 im_S_layItems se_S_layItems in_S cd_S_layItems rfl q_S_layItems ⟨by show 20 * (12 + 4 * k) + 20 + 1 ≤ 20 * (13 + 4 * k) + 20; omega, by show 8 + (8 + 11) + (300 * (12 + 4 * k) + 600) ≤ 300 * (13 + 4 * k) + 600; omega⟩ hSL.set.1 hSL.set.2.1 hSL.set.2.2 rfl rfl rfl rfl (Nat.le_of_ble_eq_true rfl) d_S_layPart_160 ⟨by have a := hP.2; have b := hx; show _ + (120 + (2663816 - ph) / 16) ≤ 120 + (2663816 - ph) / 16; omega, by have a := hP.1; have b := hx; show _ + (700000 + (2663816 - ph)) ≤ 700000 + (2663816 - ph); omega⟩ (fun rv d2 lo8 va8 kc8 ns8 hp => ?_)
        obtain ⟨rfl, rfl, ⟨nl8, ph8, hS8, hm8, hp8⟩, hN8, hf8⟩ := hp
        show V X D CL A _ _ _ _ _ _ _ []
        have hP8 : (0 + ns8) + ph ≤ ph8 ∧ 16 * (0 + kc8) + ph ≤ ph8 := ⟨by have a := hP.1; have b := hp8.1; omega, by have a := hP.2; have b := hp8.2; omega⟩
        have hx8 : ph8 ≤ 2663816 := hS8.phi
        have hn8 : nl ≤ nl8 := Nat.le_trans (Nat.le_refl nl) hm8
        have hz8 := hS8.hnl
        refine v_goto hX d_S_layPart_163 (tgt := 179) (by decide) ?_
        exact v_vret hX hE d_S_layPart_179 (by have a := hP8.2; have b := hx8; show _ ≤ 120 + (2663816 - ph) / 16; omega) (by have a := hP8.1; have b := hx8; show _ ≤ 700000 + (2663816 - ph); omega) ⟨rfl, rfl, ⟨nl8, ph8, hS8, hn8, by have a := hP8.1; have b := hP8.2; exact ⟨by omega, by omega⟩⟩, hN8, (hfL.trans hf8)⟩
      · refine v_tableIn hX d_S_layPart_43 (tgt := 157) (by omega) (by omega) (off := 114) (by rw [hk9]; rfl) (by decide) ?_
        refine v_aload_n hX d_S_layPart_157 rfl rfl ?_
        refine v_aload_n hX d_S_layPart_158 rfl rfl ?_
        refine v_iload_n hX d_S_layPart_159 rfl rfl ?_
        refine c_V hX 2 (rest := []) hl (c_S_layItems hSL hNL hT k H hi (by omega) hwd (by omega)) ml_S_110 im_S_layItems se_S_layItems in_S cd_S_layItems rfl q_S_layItems ⟨by show 20 * (12 + 4 * k) + 20 + 1 ≤ 20 * (13 + 4 * k) + 20; omega, by show 8 + (8 + 11) + (300 * (12 + 4 * k) + 600) ≤ 300 * (13 + 4 * k) + 600; omega⟩ hSL.set.1 hSL.set.2.1 hSL.set.2.2 rfl rfl rfl rfl (Nat.le_of_ble_eq_true rfl) d_S_layPart_160 ⟨by have a := hP.2; have b := hx; show _ + (120 + (2663816 - ph) / 16) ≤ 120 + (2663816 - ph) / 16; omega, by have a := hP.1; have b := hx; show _ + (700000 + (2663816 - ph)) ≤ 700000 + (2663816 - ph); omega⟩ (fun rv d2 lo9 va9 kc9 ns9 hp => ?_)
        obtain ⟨rfl, rfl, ⟨nl9, ph9, hS9, hm9, hp9⟩, hN9, hf9⟩ := hp
        show V X D CL A _ _ _ _ _ _ _ []
        have hP9 : (0 + ns9) + ph ≤ ph9 ∧ 16 * (0 + kc9) + ph ≤ ph9 := ⟨by have a := hP.1; have b := hp9.1; omega, by have a := hP.2; have b := hp9.2; omega⟩
        have hx9 : ph9 ≤ 2663816 := hS9.phi
        have hn9 : nl ≤ nl9 := Nat.le_trans (Nat.le_refl nl) hm9
        have hz9 := hS9.hnl
        refine v_goto hX d_S_layPart_163 (tgt := 179) (by decide) ?_
        exact v_vret hX hE d_S_layPart_179 (by have a := hP9.2; have b := hx9; show _ ≤ 120 + (2663816 - ph) / 16; omega) (by have a := hP9.1; have b := hx9; show _ ≤ 700000 + (2663816 - ph); omega) ⟨rfl, rfl, ⟨nl9, ph9, hS9, hn9, by have a := hP9.1; have b := hP9.2; exact ⟨by omega, by omega⟩⟩, hN9, (hfL.trans hf9)⟩
  have loop3 : ∀ (m9 : Nat) (o : Option Nat) (vaL : Nat → va_E), om n o < m9 → LayS cI ob td 0 0 a a nl pf tl ph dom loc vaL → NodesI ob T n dom loc vaL → frN loc val loc vaL → (∀ j, o = some j → j < n) → V X D CL A dom loc vaL 0 0 3 [some (.ref (ob 2)), some (.ref (ob (1000 + i))), some (.ref (ob (1000 + j))), some (.int (nI wd)), some (orf ob o)] [] := by
    intro m9
    induction m9 with
    | zero => intro o vaL hk; exact absurd hk (Nat.not_lt_zero _)
    | succ m9 ih3 =>
      intro o vaL hk hSL hNL hfL hO
      refine v_aloadQ hX (o.map (fun i => ob (1000 + i))) d_S_layPart_3 rfl ?_
      rcases hq10 : o with _ | j10
      · refine v_ifnull hX none d_S_layPart_5 (tgt := 39) (by decide) (fun _ => ?_) (fun _ h => nomatch h)
        exact j39 (some (.null)) vaL hSL hNL hfL
      · have ht_j10 := hO j10 hq10
        refine v_ifnull hX (some (ob (1000 + j10))) d_S_layPart_5 (tgt := 39) (by decide) (fun h => nomatch h) (fun _ _ => ?_)
        refine v_aload hX d_S_layPart_8 rfl ?_
        refine v_aload_n hX d_S_layPart_10 rfl rfl ?_
        refine v_get hX (1000 + j) (v := orf ob (tN T j)) inT0 (hNL.2 j hj).1 (hNL.2 j hj).2.1 (hNL.2 j hj).2.2.choose_spec.choose_spec.choose_spec.choose_spec rfl 9 (by decide) fl_S_70 rfl rfl d_S_layPart_11 ?_
        refine v_acmp_eq hX (some (ob (1000 + j10))) ((tN T j).map (fun i => ob (1000 + i))) d_S_layPart_14 (tgt := 39) (by decide) (fun cq14 => ?_) (fun cq14 => ?_)
        · have cz14 := 0
          exact j39 (some (.ref (ob (1000 + j10)))) vaL hSL hNL hfL
        · have cz14 := 0
          refine v_aload hX d_S_layPart_17 rfl ?_
          refine v_aload_n hX d_S_layPart_19 rfl rfl ?_
          refine v_get hX 2 (v := .ref (ob td)) inT2 hSL.set.1 hSL.set.2.1 hSL.set.2.2 rfl 1 (by decide) fl_S_21 rfl rfl d_S_layPart_20 ?_
          refine c_V hX td (rest := [.ref (ob (1000 + j10))]) hl (S_lines hSL) ml_S_37 im_T_lineCount se_T_lineCount in_T cd_T_lineCount rfl q_T_lineCount ⟨Nat.le_trans (m := 200) (Nat.le_of_ble_eq_true rfl) (by show 200 ≤ 20 * (13 + 4 * k) + 20; omega), Nat.le_trans (m := 3400) (Nat.le_of_ble_eq_true rfl) (by show 3400 ≤ 300 * (13 + 4 * k) + 600; omega)⟩ (hSL.sheet).choose_spec.1 (hSL.sheet).choose_spec.2.1 (hSL.sheet).choose_spec.2.2 rfl rfl rfl rfl (Nat.le_of_ble_eq_true rfl) d_S_layPart_23 ⟨by have a := hP.2; have b := hx; show _ + (120 + (2663816 - ph) / 16) ≤ 120 + (2663816 - ph) / 16; omega, by have a := hP.1; have b := hx; show _ + (700000 + (2663816 - ph)) ≤ 700000 + (2663816 - ph); omega⟩ (fun rv d2 lo2 va2 kc ns hp => ?_)
          obtain ⟨rfl, rfl, rfl, rfl, rfl, rfl⟩ := hp
          show V X D CL A _ _ _ _ _ _ _ (.int (nI nl) :: [.ref (ob (1000 + j10))])
          refine v_atLine hX hSL hNL ht_j10 (x := (nI nl)) fl_S_73 d_S_layPart_26 (fun va11 hS11 hN11 hf11 => ?_)
          refine v_aload hX d_S_layPart_29 rfl ?_
          refine v_get hX (1000 + j10) (v := orf ob (tN T j10)) inT0 (hN11.2 j10 ht_j10).1 (hN11.2 j10 ht_j10).2.1 (hN11.2 j10 ht_j10).2.2.choose_spec.choose_spec.choose_spec.choose_spec rfl 9 (by decide) fl_S_70 rfl rfl d_S_layPart_31 ?_
          refine v_astoreQ (lv' := [some (.ref (ob 2)), some (.ref (ob (1000 + i))), some (.ref (ob (1000 + j))), some (.int (nI wd)), some (orf ob (tN T j10))]) hX ((tN T j10).map (fun i => ob (1000 + i))) d_S_layPart_34 (Nat.le_of_ble_eq_true rfl) rfl ?_
          refine v_goto hX d_S_layPart_36 (tgt := 3) (by decide) ?_
          exact ih3 (tN T j10) va11 (om_next hT ht_j10 (by rw [hq10] at hk; exact hk)) hS11 hN11 (hfL.trans hf11) (fun e he => (hT.1 j10 e ht_j10 he).2.1)
  exact loop3 _ (some i) val (Nat.lt_succ_self _) hS hN frN.rf (fun e he => by cases he; exact hi)
