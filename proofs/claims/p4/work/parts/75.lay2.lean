set_option maxHeartbeats 4000000 in
set_option maxRecDepth 100000 in
theorem c_S_layQuote {l : Launch} {D : va_G} {A : Nat → Prop} {cI cB cZ cJ cN : ClassId} {ob : Nat → Nat} {td a nl pf tl ph : Nat} {dom : Nat → Prop} {loc : Nat → Nat} {val : Nat → va_E} (hS : LayS cI ob td 0 0 a a nl pf tl ph dom loc val) {T : TR} {n : Nat} (hN : NodesI ob T n dom loc val) (hT : TreeI T n) (k : Nat) (H : KLP l D A cI cB cZ cJ cN ob T n td pf tl dom k) {i : Nat} (hi : i < n) (hd : 13 ≤ tD T i + k) {wd : Nat} (hwd : 4 ≤ wd ∧ wd ≤ 60) (ha : a + 2 + 12 * (12 - tD T i) ≤ 144) : kM l y_S_layQuote (Cond.code y_S_layQuote b_S_layQuote 4 none :: TT) (rmP (11 + 4 * k) ph) D CL (TY cI cB cZ cJ cN) A [.ref (ob 2), .ref (ob (1000 + i)), .int (nI wd)] dom loc val (PSn cI ob T n td a nl pf tl ph dom loc val) := by
  refine kM_of (lv0 := [some (.ref (ob 2)), some (.ref (ob (1000 + i))), some (.int (nI wd)), none]) (own := "ProsePages$Setter") (by decide) rfl (List.forall_mem_cons.mpr ⟨rfl, List.forall_mem_cons.mpr ⟨rfl, List.forall_mem_cons.mpr ⟨rfl, fun _ h => nomatch h⟩⟩⟩) (Nat.le_of_ble_eq_true rfl) rfl (Nat.le_of_ble_eq_true rfl) (fun X hl hX hE hin0 => ?_)
  have hP : 0 + ph ≤ ph ∧ 16 * 0 + ph ≤ ph := ⟨by omega, by omega⟩
  have hx : ph ≤ 2663816 := hS.phi
  have hz := hS.hnl
  have hdd := (hT.2.2 i hi).2
  refine v_aload_n hX d_S_layQuote_0 rfl rfl ?_
  refine v_get hX 2 (v := .ref (ob 22)) inT2 hS.set.1 hS.set.2.1 hS.set.2.2 rfl 2 (by decide) fl_S_25 rfl rfl d_S_layQuote_1 ?_
  refine c_V hX 22 (rest := []) hl (S_size22 hS) ml_S_129 im_R_size se_R_size in_R cd_R_size rfl q_R_size ⟨Nat.le_trans (m := 200) (Nat.le_of_ble_eq_true rfl) (by show 200 ≤ 20 * (11 + 4 * k) + 20; omega), Nat.le_trans (m := 3400) (Nat.le_of_ble_eq_true rfl) (by show 3400 ≤ 300 * (11 + 4 * k) + 600; omega)⟩ (hS.row 22 (by decide)).1 (hS.row 22 (by decide)).2.1 (hS.row 22 (by decide)).2.2.choose_spec rfl rfl rfl rfl (Nat.le_of_ble_eq_true rfl) d_S_layQuote_4 ⟨by have a := hP.2; have b := hx; show _ + 100 ≤ 120 + (2663816 - ph) / 16; omega, by have a := hP.1; have b := hx; show _ + 200000 ≤ 700000 + (2663816 - ph); omega⟩ (fun rv d2 lo2 va2 kc ns hp => ?_)
  obtain ⟨rfl, rfl, rfl, rfl, rfl, rfl⟩ := hp
  show V X D CL A _ _ _ _ _ _ _ (.int (nI a) :: [])
  refine v_istore_n (lv' := [some (.ref (ob 2)), some (.ref (ob (1000 + i))), some (.int (nI wd)), some (.int (nI a))]) hX d_S_layQuote_7 rfl (Nat.le_of_ble_eq_true rfl) rfl ?_
  refine v_aload_n hX d_S_layQuote_8 rfl rfl ?_
  refine v_bipush (v := 62) hX d_S_layQuote_9 (by decide) ?_
  refine v_bipush (v := 62) hX d_S_layQuote_11 (by decide) ?_
  refine c_V hX 2 (rest := []) hl (c_S_addAhead hS 62 62 (by omega) (by omega)) ml_S_132 im_S_addAhead se_S_addAhead in_S cd_S_addAhead rfl q_S_addAhead ⟨Nat.le_trans (m := 200) (Nat.le_of_ble_eq_true rfl) (by show 200 ≤ 20 * (11 + 4 * k) + 20; omega), Nat.le_trans (m := 3400) (Nat.le_of_ble_eq_true rfl) (by show 3400 ≤ 300 * (11 + 4 * k) + 600; omega)⟩ hS.set.1 hS.set.2.1 hS.set.2.2 rfl rfl rfl rfl (Nat.le_of_ble_eq_true rfl) d_S_layQuote_13 ⟨by have a := hP.2; have b := hx; show _ + (120 + (2663816 - ph) / 16) ≤ 120 + (2663816 - ph) / 16; omega, by have a := hP.1; have b := hx; show _ + (700000 + (2663816 - ph)) ≤ 700000 + (2663816 - ph); omega⟩ (fun rv d2 lo1 va1 kc1 ns1 hp => ?_)
  obtain ⟨rfl, rfl, ⟨nl1, ph1, hS1, hm1, hp1⟩, hf1⟩ := hp
  show V X D CL A _ _ _ _ _ _ _ []
  have hP1 : (0 + ns1) + ph ≤ ph1 ∧ 16 * (0 + kc1) + ph ≤ ph1 := ⟨by have a := hP.1; have b := hp1.1; omega, by have a := hP.2; have b := hp1.2; omega⟩
  have hx1 : ph1 ≤ 2663816 := hS1.phi
  have hn1 : nl ≤ nl1 := Nat.le_trans (Nat.le_refl nl) hm1
  have hN1 := hN.fr hf1
  have hz1 := hS1.hnl
  refine v_aload_n hX d_S_layQuote_16 rfl rfl ?_
  refine v_bipush (v := 32) hX d_S_layQuote_17 (by decide) ?_
  refine v_bipush (v := 32) hX d_S_layQuote_19 (by decide) ?_
  refine c_V hX 2 (rest := []) hl (c_S_addAhead hS1 32 32 (by omega) (by omega)) ml_S_132 im_S_addAhead se_S_addAhead in_S cd_S_addAhead rfl q_S_addAhead ⟨Nat.le_trans (m := 200) (Nat.le_of_ble_eq_true rfl) (by show 200 ≤ 20 * (11 + 4 * k) + 20; omega), Nat.le_trans (m := 3400) (Nat.le_of_ble_eq_true rfl) (by show 3400 ≤ 300 * (11 + 4 * k) + 600; omega)⟩ hS1.set.1 hS1.set.2.1 hS1.set.2.2 rfl rfl rfl rfl (Nat.le_of_ble_eq_true rfl) d_S_layQuote_21 ⟨by have a := hP1.2; have b := hx1; show _ + (120 + (2663816 - ph1) / 16) ≤ 120 + (2663816 - ph) / 16; omega, by have a := hP1.1; have b := hx1; show _ + (700000 + (2663816 - ph1)) ≤ 700000 + (2663816 - ph); omega⟩ (fun rv d2 lo2 va2 kc2 ns2 hp => ?_)
  obtain ⟨rfl, rfl, ⟨nl2, ph2, hS2, hm2, hp2⟩, hf2⟩ := hp
  show V X D CL A _ _ _ _ _ _ _ []
  have hP2 : (0 + ns1 + ns2) + ph ≤ ph2 ∧ 16 * (0 + kc1 + kc2) + ph ≤ ph2 := ⟨by have a := hP1.1; have b := hp2.1; omega, by have a := hP1.2; have b := hp2.2; omega⟩
  have hx2 : ph2 ≤ 2663816 := hS2.phi
  have hn2 : nl ≤ nl2 := Nat.le_trans hn1 hm2
  have hN2 := hN1.fr hf2
  have hz2 := hS2.hnl
  refine v_aload_n hX d_S_layQuote_24 rfl rfl ?_
  refine v_aload_n hX d_S_layQuote_25 rfl rfl ?_
  refine v_iload_n hX d_S_layQuote_26 rfl rfl ?_
  refine v_iconst (v := 2) hX d_S_layQuote_27 (by decide) ?_
  refine c_S hX (rest := [.ref (ob (1000 + i)), .ref (ob 2)]) hl (c_S_narrower (wd := wd) (b := 2) ⟨by omega, by omega⟩ (by omega)) ml_S_135 sm_S_narrower in_S cd_S_narrower rfl q_S_narrower ⟨Nat.le_trans (m := 200) (Nat.le_of_ble_eq_true rfl) (by show 200 ≤ 20 * (11 + 4 * k) + 20; omega), Nat.le_trans (m := 3400) (Nat.le_of_ble_eq_true rfl) (by show 3400 ≤ 300 * (11 + 4 * k) + 600; omega)⟩ rfl rfl rfl (Nat.le_of_ble_eq_true rfl) d_S_layQuote_28 ⟨by have a := hP2.2; have b := hx2; show _ + 100 ≤ 120 + (2663816 - ph) / 16; omega, by have a := hP2.1; have b := hx2; show _ + 200000 ≤ 700000 + (2663816 - ph); omega⟩ (fun rv d2 lo2 va2 kc ns hp => ?_)
  obtain ⟨⟨wn3, rfl, hw3a, hw3b⟩, rfl, rfl, rfl, rfl, rfl⟩ := hp
  show V X D CL A _ _ _ _ _ _ _ (.int (nI wn3) :: [.ref (ob (1000 + i)), .ref (ob 2)])
  refine c_V hX 2 (rest := []) hl (H lo2 va2 ((a + 1) + 1) nl2 ph2 wn3 i hS2 hN2 hi (by omega) (by omega) ⟨by omega, by omega⟩) ml_S_139 im_S_layParts se_S_layParts in_S cd_S_layParts rfl q_S_layParts ⟨by show 20 * (10 + 4 * k) + 20 + 1 ≤ 20 * (11 + 4 * k) + 20; omega, by show 8 + (7 + 11) + (300 * (10 + 4 * k) + 600) ≤ 300 * (11 + 4 * k) + 600; omega⟩ hS2.set.1 hS2.set.2.1 hS2.set.2.2 rfl rfl rfl rfl (Nat.le_of_ble_eq_true rfl) d_S_layQuote_31 ⟨by have a := hP2.2; have b := hx2; show _ + (120 + (2663816 - ph2) / 16) ≤ 120 + (2663816 - ph) / 16; omega, by have a := hP2.1; have b := hx2; show _ + (700000 + (2663816 - ph2)) ≤ 700000 + (2663816 - ph); omega⟩ (fun rv d2 lo4 va4 kc4 ns4 hp => ?_)
  obtain ⟨rfl, rfl, ⟨nl4, ph4, hS4, hm4, hp4⟩, hN4, hf4⟩ := hp
  show V X D CL A _ _ _ _ _ _ _ []
  have hP4 : (0 + ns1 + ns2 + ns4) + ph ≤ ph4 ∧ 16 * (0 + kc1 + kc2 + kc4) + ph ≤ ph4 := ⟨by have a := hP2.1; have b := hp4.1; omega, by have a := hP2.2; have b := hp4.2; omega⟩
  have hx4 : ph4 ≤ 2663816 := hS4.phi
  have hn4 : nl ≤ nl4 := Nat.le_trans hn2 hm4
  have hz4 := hS4.hnl
  refine v_aload_n hX d_S_layQuote_34 rfl rfl ?_
  refine v_iload_n hX d_S_layQuote_35 rfl rfl ?_
  refine c_V hX 2 (rest := []) hl (c_S_cutAhead hS4 (m := a) (by omega)) ml_S_142 im_S_cutAhead se_S_cutAhead in_S cd_S_cutAhead rfl q_S_cutAhead ⟨Nat.le_trans (m := 200) (Nat.le_of_ble_eq_true rfl) (by show 200 ≤ 20 * (11 + 4 * k) + 20; omega), Nat.le_trans (m := 3400) (Nat.le_of_ble_eq_true rfl) (by show 3400 ≤ 300 * (11 + 4 * k) + 600; omega)⟩ hS4.set.1 hS4.set.2.1 hS4.set.2.2 rfl rfl rfl rfl (Nat.le_of_ble_eq_true rfl) d_S_layQuote_36 ⟨by have a := hP4.2; have b := hx4; show _ + (120 + (2663816 - ph4) / 16) ≤ 120 + (2663816 - ph) / 16; omega, by have a := hP4.1; have b := hx4; show _ + (700000 + (2663816 - ph4)) ≤ 700000 + (2663816 - ph); omega⟩ (fun rv d2 lo5 va5 kc5 ns5 hp => ?_)
  obtain ⟨rfl, rfl, ⟨nl5, ph5, hS5, hm5, hp5⟩, hf5⟩ := hp
  show V X D CL A _ _ _ _ _ _ _ []
  have hP5 : (0 + ns1 + ns2 + ns4 + ns5) + ph ≤ ph5 ∧ 16 * (0 + kc1 + kc2 + kc4 + kc5) + ph ≤ ph5 := ⟨by have a := hP4.1; have b := hp5.1; omega, by have a := hP4.2; have b := hp5.2; omega⟩
  have hx5 : ph5 ≤ 2663816 := hS5.phi
  have hn5 : nl ≤ nl5 := Nat.le_trans hn4 hm5
  have hN5 := hN4.fr hf5
  have hz5 := hS5.hnl
  exact v_vret hX hE d_S_layQuote_39 (by have a := hP5.2; have b := hx5; show _ ≤ 120 + (2663816 - ph) / 16; omega) (by have a := hP5.1; have b := hx5; show _ ≤ 700000 + (2663816 - ph); omega) ⟨rfl, rfl, ⟨nl5, ph5, (by have e8 : (min a ((a + 1) + 1)) = a := (by omega); rw [e8] at hS5; exact hS5), hn5, by have a := hP5.1; have b := hP5.2; exact ⟨by omega, by omega⟩⟩, hN5, ((((frN.rf.trans hf1.toN).trans hf2.toN).trans hf4).trans hf5.toN)⟩
