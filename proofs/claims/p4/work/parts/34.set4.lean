section KD4
theorem v_idivE {X : KX} {cc : ByteArray} {nL : Nat} {own : String} {R : Room} {D : va_G} {cl : List vw_C} {tys : List (ClassId × FieldType)} {A : Nat → Prop} {dom : Nat → Prop} {loc : Nat → Nat} {val : Nat → va_E} {cells slots pc : Nat} {lv : List (Option Value)} {st : List Value} (hX : OX X cc nL own TT D cl tys A R) {x y v : Int32} (hd : decode cc pc = .ok (.idiv, 1)) (hne : ¬ y = 0) (hv : x / y = v) (k : V X D cl A dom loc val cells slots (pc + 1) lv (.int v :: st)) : V X D cl A dom loc val cells slots pc lv (.int y :: .int x :: st) := v_idiv hX hd hne (hv ▸ k)
theorem nI_sub {a b : Nat} (h : b ≤ a) : nI a - nI b = nI (a - b) := by
  have e : nI a = nI (a - b) + nI b := by rw [nI_add]; congr 1; omega
  rw [e, Int32.add_sub_cancel]
theorem nI_subI {a b : Nat} (ha : a ≤ 1000) (hb : b ≤ 1000) : (nI a - nI b).toInt = (a : Int) - b := by
  rw [Int32.toInt_sub, nI_toInt (by omega), nI_toInt (by omega)]
  exact Int.bmod_eq_of_le (by omega) (by omega)
theorem narrow_ok {wd b : Nat} (h : 4 ≤ wd ∧ wd ≤ 60) (hb : b ≤ 200) : ∃ wd2, (if (4 : Int32) < nI wd - nI b then nI wd - nI b else 4) = nI wd2 ∧ 4 ≤ wd2 ∧ wd2 ≤ wd := by
  by_cases c : (4 : Int32) < nI wd - nI b
  · rw [if_pos c]
    have h1 := Int32.lt_iff_toInt_lt.mp c
    rw [nI_subI (by omega) (by omega), show (4 : Int32).toInt = 4 by decide] at h1
    exact ⟨wd - b, nI_sub (by omega), by omega, by omega⟩
  · rw [if_neg c]
    exact ⟨4, rfl, by omega, by omega⟩
/-- ahead and aheadLater grow alike, by no more than k -/
abbrev PSa (cI : ClassId) (ob : Nat → Nat) (td w c a k nl pf tl ph : Nat) (dom : Nat → Prop) (loc : Nat → Nat) (val : Nat → va_E) : kT := fun rv d lo va kc ns => rv = none ∧ dom = d ∧ (∃ a2 nl2 ph2, (a ≤ a2 ∧ a2 ≤ a + k) ∧ LayS cI ob td w c a2 a2 nl2 pf tl ph2 dom lo va ∧ nl ≤ nl2 ∧ (ns + ph ≤ ph2 ∧ 16 * kc + ph ≤ ph2)) ∧ frL loc val lo va
end KD4
set_option maxHeartbeats 4000000 in
set_option maxRecDepth 100000 in
theorem c_S_addAhead {l : Launch} {D : va_G} {A : Nat → Prop} {cI cB cZ cJ cN : ClassId} {ob : Nat → Nat} {td w c a al nl pf tl ph : Nat} {dom : Nat → Prop} {loc : Nat → Nat} {val : Nat → va_E} (hS : LayS cI ob td w c a al nl pf tl ph dom loc val) (x y : Int32) (ha : a + 1 ≤ 200) (hb : al + 1 ≤ 200) : kM l y_S_addAhead (Cond.code y_S_addAhead b_S_addAhead 3 none :: TT) (rmP 3 ph) D CL (TY cI cB cZ cJ cN) A [.ref (ob 2), .int x, .int y] dom loc val (PSt cI ob td w c (a + 1) (al + 1) nl pf tl ph dom loc val) := by
  refine kM_of (lv0 := [some (.ref (ob 2)), some (.int x), some (.int y)]) (own := "ProsePages$Setter") (by decide) rfl (List.forall_mem_cons.mpr ⟨rfl, List.forall_mem_cons.mpr ⟨rfl, List.forall_mem_cons.mpr ⟨rfl, fun _ h => nomatch h⟩⟩⟩) (Nat.le_of_ble_eq_true rfl) rfl (Nat.le_of_ble_eq_true rfl) (fun X hl hX hE hin0 => ?_)
  have hP : 0 + ph ≤ ph ∧ 16 * 0 + ph ≤ ph := ⟨by omega, by omega⟩
  have hx : ph ≤ 2663816 := hS.phi
  refine v_aload_n hX d_S_addAhead_0 rfl rfl ?_
  refine v_get hX 2 (v := .ref (ob 22)) inT2 hS.set.1 hS.set.2.1 hS.set.2.2 rfl 2 (by decide) fl_S_25 rfl rfl d_S_addAhead_1 ?_
  refine v_iload_n hX d_S_addAhead_4 rfl rfl ?_
  refine c_V hX 22 (rest := []) hl (S_add22 hS x (by omega)) ml_S_119 im_R_add se_R_add in_R cd_R_add rfl q_R_add ⟨(Nat.le_of_ble_eq_true rfl), (Nat.le_of_ble_eq_true rfl)⟩ (hS.row 22 (by decide)).1 (hS.row 22 (by decide)).2.1 (hS.row 22 (by decide)).2.2.choose_spec rfl rfl rfl rfl (Nat.le_of_ble_eq_true rfl) d_S_addAhead_5 ⟨by have a := hP.2; have b := hx; show _ + 20 ≤ 120 + (2663816 - ph) / 16; omega, by have a := hP.1; have b := hx; show _ + 700000 ≤ 700000 + (2663816 - ph); omega⟩ (fun rv d2 lo1 va1 kc1 ns1 hp => ?_)
  obtain ⟨rfl, rfl, ⟨nl1, ph1, hS1, hm1, hp1⟩, hf1⟩ := hp
  show V X D CL A _ _ _ _ _ _ _ []
  have hP1 : (0 + ns1) + ph ≤ ph1 ∧ 16 * (0 + kc1) + ph ≤ ph1 := ⟨by have a := hP.1; have b := hp1.1; omega, by have a := hP.2; have b := hp1.2; omega⟩
  have hx1 : ph1 ≤ 2663816 := hS1.phi
  have hn1 : nl ≤ nl1 := Nat.le_trans (Nat.le_refl nl) hm1
  refine v_aload_n hX d_S_addAhead_8 rfl rfl ?_
  refine v_get hX 2 (v := .ref (ob 24)) inT2 hS1.set.1 hS1.set.2.1 hS1.set.2.2 rfl 3 (by decide) fl_S_28 rfl rfl d_S_addAhead_9 ?_
  refine v_iload_n hX d_S_addAhead_12 rfl rfl ?_
  refine c_V hX 24 (rest := []) hl (S_add24 hS1 y (by omega)) ml_S_119 im_R_add se_R_add in_R cd_R_add rfl q_R_add ⟨(Nat.le_of_ble_eq_true rfl), (Nat.le_of_ble_eq_true rfl)⟩ (hS1.row 24 (by decide)).1 (hS1.row 24 (by decide)).2.1 (hS1.row 24 (by decide)).2.2.choose_spec rfl rfl rfl rfl (Nat.le_of_ble_eq_true rfl) d_S_addAhead_13 ⟨by have a := hP1.2; have b := hx1; show _ + 20 ≤ 120 + (2663816 - ph) / 16; omega, by have a := hP1.1; have b := hx1; show _ + 700000 ≤ 700000 + (2663816 - ph); omega⟩ (fun rv d2 lo2 va2 kc2 ns2 hp => ?_)
  obtain ⟨rfl, rfl, ⟨nl2, ph2, hS2, hm2, hp2⟩, hf2⟩ := hp
  show V X D CL A _ _ _ _ _ _ _ []
  have hP2 : (0 + ns1 + ns2) + ph ≤ ph2 ∧ 16 * (0 + kc1 + kc2) + ph ≤ ph2 := ⟨by have a := hP1.1; have b := hp2.1; omega, by have a := hP1.2; have b := hp2.2; omega⟩
  have hx2 : ph2 ≤ 2663816 := hS2.phi
  have hn2 : nl ≤ nl2 := Nat.le_trans hn1 hm2
  exact v_vret hX hE d_S_addAhead_16 (by have a := hP2.2; have b := hx2; show _ ≤ 120 + (2663816 - ph) / 16; omega) (by have a := hP2.1; have b := hx2; show _ ≤ 700000 + (2663816 - ph); omega) ⟨rfl, rfl, ⟨nl2, ph2, hS2, hn2, by have a := hP2.1; have b := hP2.2; exact ⟨by omega, by omega⟩⟩, ((frL.rf.trans hf1).trans hf2)⟩
set_option maxHeartbeats 4000000 in
set_option maxRecDepth 100000 in
theorem c_S_cutAhead {l : Launch} {D : va_G} {A : Nat → Prop} {cI cB cZ cJ cN : ClassId} {ob : Nat → Nat} {td w c a al nl pf tl ph : Nat} {dom : Nat → Prop} {loc : Nat → Nat} {val : Nat → va_E} (hS : LayS cI ob td w c a al nl pf tl ph dom loc val) {m : Nat} (hm : m < 2 ^ 31) : kM l y_S_cutAhead (Cond.code y_S_cutAhead b_S_cutAhead 2 none :: TT) (rmP 3 ph) D CL (TY cI cB cZ cJ cN) A [.ref (ob 2), .int (nI m)] dom loc val (PSt cI ob td w c (min m a) (min m al) nl pf tl ph dom loc val) := by
  refine kM_of (lv0 := [some (.ref (ob 2)), some (.int (nI m))]) (own := "ProsePages$Setter") (by decide) rfl (List.forall_mem_cons.mpr ⟨rfl, List.forall_mem_cons.mpr ⟨rfl, fun _ h => nomatch h⟩⟩) (Nat.le_of_ble_eq_true rfl) rfl (Nat.le_of_ble_eq_true rfl) (fun X hl hX hE hin0 => ?_)
  have hP : 0 + ph ≤ ph ∧ 16 * 0 + ph ≤ ph := ⟨by omega, by omega⟩
  have hx : ph ≤ 2663816 := hS.phi
  refine v_aload_n hX d_S_cutAhead_0 rfl rfl ?_
  refine v_get hX 2 (v := .ref (ob 22)) inT2 hS.set.1 hS.set.2.1 hS.set.2.2 rfl 2 (by decide) fl_S_25 rfl rfl d_S_cutAhead_1 ?_
  refine v_iload_n hX d_S_cutAhead_4 rfl rfl ?_
  refine c_V hX 22 (rest := []) hl (S_cut22 hS m (by omega)) ml_S_156 im_R_cut se_R_cut in_R cd_R_cut rfl q_R_cut ⟨(Nat.le_of_ble_eq_true rfl), (Nat.le_of_ble_eq_true rfl)⟩ (hS.row 22 (by decide)).1 (hS.row 22 (by decide)).2.1 (hS.row 22 (by decide)).2.2.choose_spec rfl rfl rfl rfl (Nat.le_of_ble_eq_true rfl) d_S_cutAhead_5 ⟨by have a := hP.2; have b := hx; show _ + 100 ≤ 120 + (2663816 - ph) / 16; omega, by have a := hP.1; have b := hx; show _ + 200000 ≤ 700000 + (2663816 - ph); omega⟩ (fun rv d2 lo1 va1 kc1 ns1 hp => ?_)
  obtain ⟨rfl, rfl, ⟨nl1, ph1, hS1, hm1, hp1⟩, hf1⟩ := hp
  show V X D CL A _ _ _ _ _ _ _ []
  have hP1 : (0 + ns1) + ph ≤ ph1 ∧ 16 * (0 + kc1) + ph ≤ ph1 := ⟨by have a := hP.1; have b := hp1.1; omega, by have a := hP.2; have b := hp1.2; omega⟩
  have hx1 : ph1 ≤ 2663816 := hS1.phi
  have hn1 : nl ≤ nl1 := Nat.le_trans (Nat.le_refl nl) hm1
  refine v_aload_n hX d_S_cutAhead_8 rfl rfl ?_
  refine v_get hX 2 (v := .ref (ob 24)) inT2 hS1.set.1 hS1.set.2.1 hS1.set.2.2 rfl 3 (by decide) fl_S_28 rfl rfl d_S_cutAhead_9 ?_
  refine v_iload_n hX d_S_cutAhead_12 rfl rfl ?_
  refine c_V hX 24 (rest := []) hl (S_cut24 hS1 m (by omega)) ml_S_156 im_R_cut se_R_cut in_R cd_R_cut rfl q_R_cut ⟨(Nat.le_of_ble_eq_true rfl), (Nat.le_of_ble_eq_true rfl)⟩ (hS1.row 24 (by decide)).1 (hS1.row 24 (by decide)).2.1 (hS1.row 24 (by decide)).2.2.choose_spec rfl rfl rfl rfl (Nat.le_of_ble_eq_true rfl) d_S_cutAhead_13 ⟨by have a := hP1.2; have b := hx1; show _ + 100 ≤ 120 + (2663816 - ph) / 16; omega, by have a := hP1.1; have b := hx1; show _ + 200000 ≤ 700000 + (2663816 - ph); omega⟩ (fun rv d2 lo2 va2 kc2 ns2 hp => ?_)
  obtain ⟨rfl, rfl, ⟨nl2, ph2, hS2, hm2, hp2⟩, hf2⟩ := hp
  show V X D CL A _ _ _ _ _ _ _ []
  have hP2 : (0 + ns1 + ns2) + ph ≤ ph2 ∧ 16 * (0 + kc1 + kc2) + ph ≤ ph2 := ⟨by have a := hP1.1; have b := hp2.1; omega, by have a := hP1.2; have b := hp2.2; omega⟩
  have hx2 : ph2 ≤ 2663816 := hS2.phi
  have hn2 : nl ≤ nl2 := Nat.le_trans hn1 hm2
  exact v_vret hX hE d_S_cutAhead_16 (by have a := hP2.2; have b := hx2; show _ ≤ 120 + (2663816 - ph) / 16; omega) (by have a := hP2.1; have b := hx2; show _ ≤ 700000 + (2663816 - ph); omega) ⟨rfl, rfl, ⟨nl2, ph2, hS2, hn2, by have a := hP2.1; have b := hP2.2; exact ⟨by omega, by omega⟩⟩, ((frL.rf.trans hf1).trans hf2)⟩
set_option maxHeartbeats 4000000 in
set_option maxRecDepth 100000 in
theorem c_S_addDigits {l : Launch} {D : va_G} {A : Nat → Prop} {cI cB cZ cJ cN : ClassId} {ob : Nat → Nat} {td w c a nl pf tl ph : Nat} {dom : Nat → Prop} {loc : Nat → Nat} {val : Nat → va_E} (hS : LayS cI ob td w c a a nl pf tl ph dom loc val) (x : Int32) (ha : a + 12 ≤ 200) : kM l y_S_addDigits (Cond.code y_S_addDigits b_S_addDigits 3 none :: TT) (rmP 4 ph) D CL (TY cI cB cZ cJ cN) A [.ref (ob 2), .int x] dom loc val (PSa cI ob td w c a 10 nl pf tl ph dom loc val) := by
  refine kM_of (lv0 := [some (.ref (ob 2)), some (.int x), none]) (own := "ProsePages$Setter") (by decide) rfl (List.forall_mem_cons.mpr ⟨rfl, List.forall_mem_cons.mpr ⟨rfl, fun _ h => nomatch h⟩⟩) (Nat.le_of_ble_eq_true rfl) rfl (Nat.le_of_ble_eq_true rfl) (fun X hl hX hE hin0 => ?_)
  have hP : 0 + ph ≤ ph ∧ 16 * 0 + ph ≤ ph := ⟨by omega, by omega⟩
  have hx : ph ≤ 2663816 := hS.phi
  have digz : ∀ (loL : Nat → Nat) (vaL : Nat → va_E) (csL ssL aL nlL phL : Nat), LayS cI ob td w c aL aL nlL pf tl phL dom loL vaL → (a ≤ aL ∧ aL + 0 ≤ a + 10) → nl ≤ nlL → (ssL + ph ≤ phL ∧ 16 * csL + ph ≤ phL) → frL loc val loL vaL → V X D CL A dom loL vaL csL ssL 21 [some (.ref (ob 2)), some (.int x), some (.int 0)] [] := by
    intro loL vaL csL ssL aL nlL phL hSL hcL hnL hPL hfL
    have hxL : phL ≤ 2663816 := hSL.phi
    refine v_iload_n hX d_S_addDigits_21 rfl rfl ?_
    refine v_if_le hX d_S_addDigits_22 (tgt := 48) (by decide) (fun _ => ?_) (fun c => absurd (by decide) c)
    exact v_vret hX hE d_S_addDigits_48 (by have a := hPL.2; have b := hxL; show _ ≤ 120 + (2663816 - ph) / 16; omega) (by have a := hPL.1; have b := hxL; show _ ≤ 700000 + (2663816 - ph); omega) ⟨rfl, rfl, ⟨aL, nlL, phL, ⟨by omega, by omega⟩, hSL, hnL, by have a := hPL.1; have b := hPL.2; exact ⟨by omega, by omega⟩⟩, hfL⟩
  have dig0 : ∀ (loL : Nat → Nat) (vaL : Nat → va_E) (csL ssL aL nlL phL : Nat), LayS cI ob td w c aL aL nlL pf tl phL dom loL vaL → (a ≤ aL ∧ aL + 1 ≤ a + 10) → nl ≤ nlL → (ssL + ph ≤ phL ∧ 16 * csL + ph ≤ phL) → frL loc val loL vaL → V X D CL A dom loL vaL csL ssL 21 [some (.ref (ob 2)), some (.int x), some (.int 1)] [] := by
    intro loL vaL csL ssL aL nlL phL hSL hcL hnL hPL hfL
    have hxL : phL ≤ 2663816 := hSL.phi
    refine v_iload_n hX d_S_addDigits_21 rfl rfl ?_
    refine v_if_le hX d_S_addDigits_22 (tgt := 48) (by decide) (fun c => absurd c (by decide)) (fun _ => ?_)
    refine v_aload_n hX d_S_addDigits_25 rfl rfl ?_
    refine v_bipush (v := 48) hX d_S_addDigits_26 (by decide) ?_
    refine v_iload_n hX d_S_addDigits_28 rfl rfl ?_
    refine v_iload_n hX d_S_addDigits_29 rfl rfl ?_
    refine v_idiv hX d_S_addDigits_30 (by decide) ?_
    refine v_bipush (v := 10) hX d_S_addDigits_31 (by decide) ?_
    refine v_irem hX d_S_addDigits_33 (by decide) ?_
    refine v_iadd hX d_S_addDigits_34 ?_
    refine v_bipush (v := 32) hX d_S_addDigits_35 (by decide) ?_
    refine c_V hX 2 (rest := []) hl (c_S_addAhead hSL (48 + ((x / 1) - (x / 1) / 10 * 10)) 32 (by omega) (by omega)) ml_S_132 im_S_addAhead se_S_addAhead in_S cd_S_addAhead rfl q_S_addAhead ⟨(Nat.le_of_ble_eq_true rfl), (Nat.le_of_ble_eq_true rfl)⟩ hSL.set.1 hSL.set.2.1 hSL.set.2.2 rfl rfl rfl rfl (Nat.le_of_ble_eq_true rfl) d_S_addDigits_37 ⟨by have a := hPL.2; have b := hxL; show _ + (120 + (2663816 - phL) / 16) ≤ 120 + (2663816 - ph) / 16; omega, by have a := hPL.1; have b := hxL; show _ + (700000 + (2663816 - phL)) ≤ 700000 + (2663816 - ph); omega⟩ (fun rv d2 lo1 va1 kc1 ns1 hp => ?_)
    obtain ⟨rfl, rfl, ⟨nl1, ph1, hS1, hm1, hp1⟩, hf1⟩ := hp
    show V X D CL A _ _ _ _ _ _ _ []
    have hP1 : (ssL + ns1) + ph ≤ ph1 ∧ 16 * (csL + kc1) + ph ≤ ph1 := ⟨by have a := hPL.1; have b := hp1.1; omega, by have a := hPL.2; have b := hp1.2; omega⟩
    have hx1 : ph1 ≤ 2663816 := hS1.phi
    have hn1 : nl ≤ nl1 := Nat.le_trans hnL hm1
    refine v_iload_n hX d_S_addDigits_40 rfl rfl ?_
    refine v_bipush (v := 10) hX d_S_addDigits_41 (by decide) ?_
    refine v_idivE (v := 0) hX d_S_addDigits_43 (by decide) (by decide) ?_
    refine v_istore_n (lv' := [some (.ref (ob 2)), some (.int x), some (.int 0)]) hX d_S_addDigits_44 rfl (Nat.le_of_ble_eq_true rfl) rfl ?_
    refine v_goto hX d_S_addDigits_45 (tgt := 21) (by decide) ?_
    exact digz lo1 va1 (csL + kc1) (ssL + ns1) (aL + 1) nl1 ph1 hS1 ⟨by omega, by omega⟩ hn1 hP1 (hfL.trans hf1)
  have dig1 : ∀ (loL : Nat → Nat) (vaL : Nat → va_E) (csL ssL aL nlL phL : Nat), LayS cI ob td w c aL aL nlL pf tl phL dom loL vaL → (a ≤ aL ∧ aL + 2 ≤ a + 10) → nl ≤ nlL → (ssL + ph ≤ phL ∧ 16 * csL + ph ≤ phL) → frL loc val loL vaL → V X D CL A dom loL vaL csL ssL 21 [some (.ref (ob 2)), some (.int x), some (.int 10)] [] := by
    intro loL vaL csL ssL aL nlL phL hSL hcL hnL hPL hfL
    have hxL : phL ≤ 2663816 := hSL.phi
    refine v_iload_n hX d_S_addDigits_21 rfl rfl ?_
    refine v_if_le hX d_S_addDigits_22 (tgt := 48) (by decide) (fun c => absurd c (by decide)) (fun _ => ?_)
    refine v_aload_n hX d_S_addDigits_25 rfl rfl ?_
    refine v_bipush (v := 48) hX d_S_addDigits_26 (by decide) ?_
    refine v_iload_n hX d_S_addDigits_28 rfl rfl ?_
    refine v_iload_n hX d_S_addDigits_29 rfl rfl ?_
    refine v_idiv hX d_S_addDigits_30 (by decide) ?_
    refine v_bipush (v := 10) hX d_S_addDigits_31 (by decide) ?_
    refine v_irem hX d_S_addDigits_33 (by decide) ?_
    refine v_iadd hX d_S_addDigits_34 ?_
    refine v_bipush (v := 32) hX d_S_addDigits_35 (by decide) ?_
    refine c_V hX 2 (rest := []) hl (c_S_addAhead hSL (48 + ((x / 10) - (x / 10) / 10 * 10)) 32 (by omega) (by omega)) ml_S_132 im_S_addAhead se_S_addAhead in_S cd_S_addAhead rfl q_S_addAhead ⟨(Nat.le_of_ble_eq_true rfl), (Nat.le_of_ble_eq_true rfl)⟩ hSL.set.1 hSL.set.2.1 hSL.set.2.2 rfl rfl rfl rfl (Nat.le_of_ble_eq_true rfl) d_S_addDigits_37 ⟨by have a := hPL.2; have b := hxL; show _ + (120 + (2663816 - phL) / 16) ≤ 120 + (2663816 - ph) / 16; omega, by have a := hPL.1; have b := hxL; show _ + (700000 + (2663816 - phL)) ≤ 700000 + (2663816 - ph); omega⟩ (fun rv d2 lo2 va2 kc2 ns2 hp => ?_)
    obtain ⟨rfl, rfl, ⟨nl2, ph2, hS2, hm2, hp2⟩, hf2⟩ := hp
    show V X D CL A _ _ _ _ _ _ _ []
    have hP2 : (ssL + ns2) + ph ≤ ph2 ∧ 16 * (csL + kc2) + ph ≤ ph2 := ⟨by have a := hPL.1; have b := hp2.1; omega, by have a := hPL.2; have b := hp2.2; omega⟩
    have hx2 : ph2 ≤ 2663816 := hS2.phi
    have hn2 : nl ≤ nl2 := Nat.le_trans hnL hm2
    refine v_iload_n hX d_S_addDigits_40 rfl rfl ?_
    refine v_bipush (v := 10) hX d_S_addDigits_41 (by decide) ?_
    refine v_idivE (v := 1) hX d_S_addDigits_43 (by decide) (by decide) ?_
    refine v_istore_n (lv' := [some (.ref (ob 2)), some (.int x), some (.int 1)]) hX d_S_addDigits_44 rfl (Nat.le_of_ble_eq_true rfl) rfl ?_
    refine v_goto hX d_S_addDigits_45 (tgt := 21) (by decide) ?_
    exact dig0 lo2 va2 (csL + kc2) (ssL + ns2) (aL + 1) nl2 ph2 hS2 ⟨by omega, by omega⟩ hn2 hP2 (hfL.trans hf2)
  have dig2 : ∀ (loL : Nat → Nat) (vaL : Nat → va_E) (csL ssL aL nlL phL : Nat), LayS cI ob td w c aL aL nlL pf tl phL dom loL vaL → (a ≤ aL ∧ aL + 3 ≤ a + 10) → nl ≤ nlL → (ssL + ph ≤ phL ∧ 16 * csL + ph ≤ phL) → frL loc val loL vaL → V X D CL A dom loL vaL csL ssL 21 [some (.ref (ob 2)), some (.int x), some (.int 100)] [] := by
    intro loL vaL csL ssL aL nlL phL hSL hcL hnL hPL hfL
    have hxL : phL ≤ 2663816 := hSL.phi
    refine v_iload_n hX d_S_addDigits_21 rfl rfl ?_
    refine v_if_le hX d_S_addDigits_22 (tgt := 48) (by decide) (fun c => absurd c (by decide)) (fun _ => ?_)
    refine v_aload_n hX d_S_addDigits_25 rfl rfl ?_
    refine v_bipush (v := 48) hX d_S_addDigits_26 (by decide) ?_
    refine v_iload_n hX d_S_addDigits_28 rfl rfl ?_
    refine v_iload_n hX d_S_addDigits_29 rfl rfl ?_
    refine v_idiv hX d_S_addDigits_30 (by decide) ?_
    refine v_bipush (v := 10) hX d_S_addDigits_31 (by decide) ?_
    refine v_irem hX d_S_addDigits_33 (by decide) ?_
    refine v_iadd hX d_S_addDigits_34 ?_
    refine v_bipush (v := 32) hX d_S_addDigits_35 (by decide) ?_
    refine c_V hX 2 (rest := []) hl (c_S_addAhead hSL (48 + ((x / 100) - (x / 100) / 10 * 10)) 32 (by omega) (by omega)) ml_S_132 im_S_addAhead se_S_addAhead in_S cd_S_addAhead rfl q_S_addAhead ⟨(Nat.le_of_ble_eq_true rfl), (Nat.le_of_ble_eq_true rfl)⟩ hSL.set.1 hSL.set.2.1 hSL.set.2.2 rfl rfl rfl rfl (Nat.le_of_ble_eq_true rfl) d_S_addDigits_37 ⟨by have a := hPL.2; have b := hxL; show _ + (120 + (2663816 - phL) / 16) ≤ 120 + (2663816 - ph) / 16; omega, by have a := hPL.1; have b := hxL; show _ + (700000 + (2663816 - phL)) ≤ 700000 + (2663816 - ph); omega⟩ (fun rv d2 lo3 va3 kc3 ns3 hp => ?_)
    obtain ⟨rfl, rfl, ⟨nl3, ph3, hS3, hm3, hp3⟩, hf3⟩ := hp
    show V X D CL A _ _ _ _ _ _ _ []
    have hP3 : (ssL + ns3) + ph ≤ ph3 ∧ 16 * (csL + kc3) + ph ≤ ph3 := ⟨by have a := hPL.1; have b := hp3.1; omega, by have a := hPL.2; have b := hp3.2; omega⟩
    have hx3 : ph3 ≤ 2663816 := hS3.phi
    have hn3 : nl ≤ nl3 := Nat.le_trans hnL hm3
    refine v_iload_n hX d_S_addDigits_40 rfl rfl ?_
    refine v_bipush (v := 10) hX d_S_addDigits_41 (by decide) ?_
    refine v_idivE (v := 10) hX d_S_addDigits_43 (by decide) (by decide) ?_
    refine v_istore_n (lv' := [some (.ref (ob 2)), some (.int x), some (.int 10)]) hX d_S_addDigits_44 rfl (Nat.le_of_ble_eq_true rfl) rfl ?_
    refine v_goto hX d_S_addDigits_45 (tgt := 21) (by decide) ?_
    exact dig1 lo3 va3 (csL + kc3) (ssL + ns3) (aL + 1) nl3 ph3 hS3 ⟨by omega, by omega⟩ hn3 hP3 (hfL.trans hf3)
  have dig3 : ∀ (loL : Nat → Nat) (vaL : Nat → va_E) (csL ssL aL nlL phL : Nat), LayS cI ob td w c aL aL nlL pf tl phL dom loL vaL → (a ≤ aL ∧ aL + 4 ≤ a + 10) → nl ≤ nlL → (ssL + ph ≤ phL ∧ 16 * csL + ph ≤ phL) → frL loc val loL vaL → V X D CL A dom loL vaL csL ssL 21 [some (.ref (ob 2)), some (.int x), some (.int 1000)] [] := by
    intro loL vaL csL ssL aL nlL phL hSL hcL hnL hPL hfL
    have hxL : phL ≤ 2663816 := hSL.phi
    refine v_iload_n hX d_S_addDigits_21 rfl rfl ?_
    refine v_if_le hX d_S_addDigits_22 (tgt := 48) (by decide) (fun c => absurd c (by decide)) (fun _ => ?_)
    refine v_aload_n hX d_S_addDigits_25 rfl rfl ?_
    refine v_bipush (v := 48) hX d_S_addDigits_26 (by decide) ?_
    refine v_iload_n hX d_S_addDigits_28 rfl rfl ?_
    refine v_iload_n hX d_S_addDigits_29 rfl rfl ?_
    refine v_idiv hX d_S_addDigits_30 (by decide) ?_
    refine v_bipush (v := 10) hX d_S_addDigits_31 (by decide) ?_
    refine v_irem hX d_S_addDigits_33 (by decide) ?_
    refine v_iadd hX d_S_addDigits_34 ?_
    refine v_bipush (v := 32) hX d_S_addDigits_35 (by decide) ?_
    refine c_V hX 2 (rest := []) hl (c_S_addAhead hSL (48 + ((x / 1000) - (x / 1000) / 10 * 10)) 32 (by omega) (by omega)) ml_S_132 im_S_addAhead se_S_addAhead in_S cd_S_addAhead rfl q_S_addAhead ⟨(Nat.le_of_ble_eq_true rfl), (Nat.le_of_ble_eq_true rfl)⟩ hSL.set.1 hSL.set.2.1 hSL.set.2.2 rfl rfl rfl rfl (Nat.le_of_ble_eq_true rfl) d_S_addDigits_37 ⟨by have a := hPL.2; have b := hxL; show _ + (120 + (2663816 - phL) / 16) ≤ 120 + (2663816 - ph) / 16; omega, by have a := hPL.1; have b := hxL; show _ + (700000 + (2663816 - phL)) ≤ 700000 + (2663816 - ph); omega⟩ (fun rv d2 lo4 va4 kc4 ns4 hp => ?_)
    obtain ⟨rfl, rfl, ⟨nl4, ph4, hS4, hm4, hp4⟩, hf4⟩ := hp
    show V X D CL A _ _ _ _ _ _ _ []
    have hP4 : (ssL + ns4) + ph ≤ ph4 ∧ 16 * (csL + kc4) + ph ≤ ph4 := ⟨by have a := hPL.1; have b := hp4.1; omega, by have a := hPL.2; have b := hp4.2; omega⟩
    have hx4 : ph4 ≤ 2663816 := hS4.phi
    have hn4 : nl ≤ nl4 := Nat.le_trans hnL hm4
    refine v_iload_n hX d_S_addDigits_40 rfl rfl ?_
    refine v_bipush (v := 10) hX d_S_addDigits_41 (by decide) ?_
    refine v_idivE (v := 100) hX d_S_addDigits_43 (by decide) (by decide) ?_
    refine v_istore_n (lv' := [some (.ref (ob 2)), some (.int x), some (.int 100)]) hX d_S_addDigits_44 rfl (Nat.le_of_ble_eq_true rfl) rfl ?_
    refine v_goto hX d_S_addDigits_45 (tgt := 21) (by decide) ?_
    exact dig2 lo4 va4 (csL + kc4) (ssL + ns4) (aL + 1) nl4 ph4 hS4 ⟨by omega, by omega⟩ hn4 hP4 (hfL.trans hf4)
  have dig4 : ∀ (loL : Nat → Nat) (vaL : Nat → va_E) (csL ssL aL nlL phL : Nat), LayS cI ob td w c aL aL nlL pf tl phL dom loL vaL → (a ≤ aL ∧ aL + 5 ≤ a + 10) → nl ≤ nlL → (ssL + ph ≤ phL ∧ 16 * csL + ph ≤ phL) → frL loc val loL vaL → V X D CL A dom loL vaL csL ssL 21 [some (.ref (ob 2)), some (.int x), some (.int 10000)] [] := by
    intro loL vaL csL ssL aL nlL phL hSL hcL hnL hPL hfL
    have hxL : phL ≤ 2663816 := hSL.phi
    refine v_iload_n hX d_S_addDigits_21 rfl rfl ?_
    refine v_if_le hX d_S_addDigits_22 (tgt := 48) (by decide) (fun c => absurd c (by decide)) (fun _ => ?_)
    refine v_aload_n hX d_S_addDigits_25 rfl rfl ?_
    refine v_bipush (v := 48) hX d_S_addDigits_26 (by decide) ?_
    refine v_iload_n hX d_S_addDigits_28 rfl rfl ?_
    refine v_iload_n hX d_S_addDigits_29 rfl rfl ?_
    refine v_idiv hX d_S_addDigits_30 (by decide) ?_
    refine v_bipush (v := 10) hX d_S_addDigits_31 (by decide) ?_
    refine v_irem hX d_S_addDigits_33 (by decide) ?_
    refine v_iadd hX d_S_addDigits_34 ?_
    refine v_bipush (v := 32) hX d_S_addDigits_35 (by decide) ?_
    refine c_V hX 2 (rest := []) hl (c_S_addAhead hSL (48 + ((x / 10000) - (x / 10000) / 10 * 10)) 32 (by omega) (by omega)) ml_S_132 im_S_addAhead se_S_addAhead in_S cd_S_addAhead rfl q_S_addAhead ⟨(Nat.le_of_ble_eq_true rfl), (Nat.le_of_ble_eq_true rfl)⟩ hSL.set.1 hSL.set.2.1 hSL.set.2.2 rfl rfl rfl rfl (Nat.le_of_ble_eq_true rfl) d_S_addDigits_37 ⟨by have a := hPL.2; have b := hxL; show _ + (120 + (2663816 - phL) / 16) ≤ 120 + (2663816 - ph) / 16; omega, by have a := hPL.1; have b := hxL; show _ + (700000 + (2663816 - phL)) ≤ 700000 + (2663816 - ph); omega⟩ (fun rv d2 lo5 va5 kc5 ns5 hp => ?_)
    obtain ⟨rfl, rfl, ⟨nl5, ph5, hS5, hm5, hp5⟩, hf5⟩ := hp
    show V X D CL A _ _ _ _ _ _ _ []
    have hP5 : (ssL + ns5) + ph ≤ ph5 ∧ 16 * (csL + kc5) + ph ≤ ph5 := ⟨by have a := hPL.1; have b := hp5.1; omega, by have a := hPL.2; have b := hp5.2; omega⟩
    have hx5 : ph5 ≤ 2663816 := hS5.phi
    have hn5 : nl ≤ nl5 := Nat.le_trans hnL hm5
    refine v_iload_n hX d_S_addDigits_40 rfl rfl ?_
    refine v_bipush (v := 10) hX d_S_addDigits_41 (by decide) ?_
    refine v_idivE (v := 1000) hX d_S_addDigits_43 (by decide) (by decide) ?_
    refine v_istore_n (lv' := [some (.ref (ob 2)), some (.int x), some (.int 1000)]) hX d_S_addDigits_44 rfl (Nat.le_of_ble_eq_true rfl) rfl ?_
    refine v_goto hX d_S_addDigits_45 (tgt := 21) (by decide) ?_
    exact dig3 lo5 va5 (csL + kc5) (ssL + ns5) (aL + 1) nl5 ph5 hS5 ⟨by omega, by omega⟩ hn5 hP5 (hfL.trans hf5)
  have dig5 : ∀ (loL : Nat → Nat) (vaL : Nat → va_E) (csL ssL aL nlL phL : Nat), LayS cI ob td w c aL aL nlL pf tl phL dom loL vaL → (a ≤ aL ∧ aL + 6 ≤ a + 10) → nl ≤ nlL → (ssL + ph ≤ phL ∧ 16 * csL + ph ≤ phL) → frL loc val loL vaL → V X D CL A dom loL vaL csL ssL 21 [some (.ref (ob 2)), some (.int x), some (.int 100000)] [] := by
    intro loL vaL csL ssL aL nlL phL hSL hcL hnL hPL hfL
    have hxL : phL ≤ 2663816 := hSL.phi
    refine v_iload_n hX d_S_addDigits_21 rfl rfl ?_
    refine v_if_le hX d_S_addDigits_22 (tgt := 48) (by decide) (fun c => absurd c (by decide)) (fun _ => ?_)
    refine v_aload_n hX d_S_addDigits_25 rfl rfl ?_
    refine v_bipush (v := 48) hX d_S_addDigits_26 (by decide) ?_
    refine v_iload_n hX d_S_addDigits_28 rfl rfl ?_
    refine v_iload_n hX d_S_addDigits_29 rfl rfl ?_
    refine v_idiv hX d_S_addDigits_30 (by decide) ?_
    refine v_bipush (v := 10) hX d_S_addDigits_31 (by decide) ?_
    refine v_irem hX d_S_addDigits_33 (by decide) ?_
    refine v_iadd hX d_S_addDigits_34 ?_
    refine v_bipush (v := 32) hX d_S_addDigits_35 (by decide) ?_
    refine c_V hX 2 (rest := []) hl (c_S_addAhead hSL (48 + ((x / 100000) - (x / 100000) / 10 * 10)) 32 (by omega) (by omega)) ml_S_132 im_S_addAhead se_S_addAhead in_S cd_S_addAhead rfl q_S_addAhead ⟨(Nat.le_of_ble_eq_true rfl), (Nat.le_of_ble_eq_true rfl)⟩ hSL.set.1 hSL.set.2.1 hSL.set.2.2 rfl rfl rfl rfl (Nat.le_of_ble_eq_true rfl) d_S_addDigits_37 ⟨by have a := hPL.2; have b := hxL; show _ + (120 + (2663816 - phL) / 16) ≤ 120 + (2663816 - ph) / 16; omega, by have a := hPL.1; have b := hxL; show _ + (700000 + (2663816 - phL)) ≤ 700000 + (2663816 - ph); omega⟩ (fun rv d2 lo6 va6 kc6 ns6 hp => ?_)
    obtain ⟨rfl, rfl, ⟨nl6, ph6, hS6, hm6, hp6⟩, hf6⟩ := hp
    show V X D CL A _ _ _ _ _ _ _ []
    have hP6 : (ssL + ns6) + ph ≤ ph6 ∧ 16 * (csL + kc6) + ph ≤ ph6 := ⟨by have a := hPL.1; have b := hp6.1; omega, by have a := hPL.2; have b := hp6.2; omega⟩
    have hx6 : ph6 ≤ 2663816 := hS6.phi
    have hn6 : nl ≤ nl6 := Nat.le_trans hnL hm6
    refine v_iload_n hX d_S_addDigits_40 rfl rfl ?_
    refine v_bipush (v := 10) hX d_S_addDigits_41 (by decide) ?_
    refine v_idivE (v := 10000) hX d_S_addDigits_43 (by decide) (by decide) ?_
    refine v_istore_n (lv' := [some (.ref (ob 2)), some (.int x), some (.int 10000)]) hX d_S_addDigits_44 rfl (Nat.le_of_ble_eq_true rfl) rfl ?_
    refine v_goto hX d_S_addDigits_45 (tgt := 21) (by decide) ?_
    exact dig4 lo6 va6 (csL + kc6) (ssL + ns6) (aL + 1) nl6 ph6 hS6 ⟨by omega, by omega⟩ hn6 hP6 (hfL.trans hf6)
  have dig6 : ∀ (loL : Nat → Nat) (vaL : Nat → va_E) (csL ssL aL nlL phL : Nat), LayS cI ob td w c aL aL nlL pf tl phL dom loL vaL → (a ≤ aL ∧ aL + 7 ≤ a + 10) → nl ≤ nlL → (ssL + ph ≤ phL ∧ 16 * csL + ph ≤ phL) → frL loc val loL vaL → V X D CL A dom loL vaL csL ssL 21 [some (.ref (ob 2)), some (.int x), some (.int 1000000)] [] := by
    intro loL vaL csL ssL aL nlL phL hSL hcL hnL hPL hfL
    have hxL : phL ≤ 2663816 := hSL.phi
    refine v_iload_n hX d_S_addDigits_21 rfl rfl ?_
    refine v_if_le hX d_S_addDigits_22 (tgt := 48) (by decide) (fun c => absurd c (by decide)) (fun _ => ?_)
    refine v_aload_n hX d_S_addDigits_25 rfl rfl ?_
    refine v_bipush (v := 48) hX d_S_addDigits_26 (by decide) ?_
    refine v_iload_n hX d_S_addDigits_28 rfl rfl ?_
    refine v_iload_n hX d_S_addDigits_29 rfl rfl ?_
    refine v_idiv hX d_S_addDigits_30 (by decide) ?_
    refine v_bipush (v := 10) hX d_S_addDigits_31 (by decide) ?_
    refine v_irem hX d_S_addDigits_33 (by decide) ?_
    refine v_iadd hX d_S_addDigits_34 ?_
    refine v_bipush (v := 32) hX d_S_addDigits_35 (by decide) ?_
    refine c_V hX 2 (rest := []) hl (c_S_addAhead hSL (48 + ((x / 1000000) - (x / 1000000) / 10 * 10)) 32 (by omega) (by omega)) ml_S_132 im_S_addAhead se_S_addAhead in_S cd_S_addAhead rfl q_S_addAhead ⟨(Nat.le_of_ble_eq_true rfl), (Nat.le_of_ble_eq_true rfl)⟩ hSL.set.1 hSL.set.2.1 hSL.set.2.2 rfl rfl rfl rfl (Nat.le_of_ble_eq_true rfl) d_S_addDigits_37 ⟨by have a := hPL.2; have b := hxL; show _ + (120 + (2663816 - phL) / 16) ≤ 120 + (2663816 - ph) / 16; omega, by have a := hPL.1; have b := hxL; show _ + (700000 + (2663816 - phL)) ≤ 700000 + (2663816 - ph); omega⟩ (fun rv d2 lo7 va7 kc7 ns7 hp => ?_)
    obtain ⟨rfl, rfl, ⟨nl7, ph7, hS7, hm7, hp7⟩, hf7⟩ := hp
    show V X D CL A _ _ _ _ _ _ _ []
    have hP7 : (ssL + ns7) + ph ≤ ph7 ∧ 16 * (csL + kc7) + ph ≤ ph7 := ⟨by have a := hPL.1; have b := hp7.1; omega, by have a := hPL.2; have b := hp7.2; omega⟩
    have hx7 : ph7 ≤ 2663816 := hS7.phi
    have hn7 : nl ≤ nl7 := Nat.le_trans hnL hm7
    refine v_iload_n hX d_S_addDigits_40 rfl rfl ?_
    refine v_bipush (v := 10) hX d_S_addDigits_41 (by decide) ?_
    refine v_idivE (v := 100000) hX d_S_addDigits_43 (by decide) (by decide) ?_
    refine v_istore_n (lv' := [some (.ref (ob 2)), some (.int x), some (.int 100000)]) hX d_S_addDigits_44 rfl (Nat.le_of_ble_eq_true rfl) rfl ?_
    refine v_goto hX d_S_addDigits_45 (tgt := 21) (by decide) ?_
    exact dig5 lo7 va7 (csL + kc7) (ssL + ns7) (aL + 1) nl7 ph7 hS7 ⟨by omega, by omega⟩ hn7 hP7 (hfL.trans hf7)
  have dig7 : ∀ (loL : Nat → Nat) (vaL : Nat → va_E) (csL ssL aL nlL phL : Nat), LayS cI ob td w c aL aL nlL pf tl phL dom loL vaL → (a ≤ aL ∧ aL + 8 ≤ a + 10) → nl ≤ nlL → (ssL + ph ≤ phL ∧ 16 * csL + ph ≤ phL) → frL loc val loL vaL → V X D CL A dom loL vaL csL ssL 21 [some (.ref (ob 2)), some (.int x), some (.int 10000000)] [] := by
    intro loL vaL csL ssL aL nlL phL hSL hcL hnL hPL hfL
    have hxL : phL ≤ 2663816 := hSL.phi
    refine v_iload_n hX d_S_addDigits_21 rfl rfl ?_
    refine v_if_le hX d_S_addDigits_22 (tgt := 48) (by decide) (fun c => absurd c (by decide)) (fun _ => ?_)
    refine v_aload_n hX d_S_addDigits_25 rfl rfl ?_
    refine v_bipush (v := 48) hX d_S_addDigits_26 (by decide) ?_
    refine v_iload_n hX d_S_addDigits_28 rfl rfl ?_
    refine v_iload_n hX d_S_addDigits_29 rfl rfl ?_
    refine v_idiv hX d_S_addDigits_30 (by decide) ?_
    refine v_bipush (v := 10) hX d_S_addDigits_31 (by decide) ?_
    refine v_irem hX d_S_addDigits_33 (by decide) ?_
    refine v_iadd hX d_S_addDigits_34 ?_
    refine v_bipush (v := 32) hX d_S_addDigits_35 (by decide) ?_
    refine c_V hX 2 (rest := []) hl (c_S_addAhead hSL (48 + ((x / 10000000) - (x / 10000000) / 10 * 10)) 32 (by omega) (by omega)) ml_S_132 im_S_addAhead se_S_addAhead in_S cd_S_addAhead rfl q_S_addAhead ⟨(Nat.le_of_ble_eq_true rfl), (Nat.le_of_ble_eq_true rfl)⟩ hSL.set.1 hSL.set.2.1 hSL.set.2.2 rfl rfl rfl rfl (Nat.le_of_ble_eq_true rfl) d_S_addDigits_37 ⟨by have a := hPL.2; have b := hxL; show _ + (120 + (2663816 - phL) / 16) ≤ 120 + (2663816 - ph) / 16; omega, by have a := hPL.1; have b := hxL; show _ + (700000 + (2663816 - phL)) ≤ 700000 + (2663816 - ph); omega⟩ (fun rv d2 lo8 va8 kc8 ns8 hp => ?_)
    obtain ⟨rfl, rfl, ⟨nl8, ph8, hS8, hm8, hp8⟩, hf8⟩ := hp
    show V X D CL A _ _ _ _ _ _ _ []
    have hP8 : (ssL + ns8) + ph ≤ ph8 ∧ 16 * (csL + kc8) + ph ≤ ph8 := ⟨by have a := hPL.1; have b := hp8.1; omega, by have a := hPL.2; have b := hp8.2; omega⟩
    have hx8 : ph8 ≤ 2663816 := hS8.phi
    have hn8 : nl ≤ nl8 := Nat.le_trans hnL hm8
    refine v_iload_n hX d_S_addDigits_40 rfl rfl ?_
    refine v_bipush (v := 10) hX d_S_addDigits_41 (by decide) ?_
    refine v_idivE (v := 1000000) hX d_S_addDigits_43 (by decide) (by decide) ?_
    refine v_istore_n (lv' := [some (.ref (ob 2)), some (.int x), some (.int 1000000)]) hX d_S_addDigits_44 rfl (Nat.le_of_ble_eq_true rfl) rfl ?_
    refine v_goto hX d_S_addDigits_45 (tgt := 21) (by decide) ?_
    exact dig6 lo8 va8 (csL + kc8) (ssL + ns8) (aL + 1) nl8 ph8 hS8 ⟨by omega, by omega⟩ hn8 hP8 (hfL.trans hf8)
  have dig8 : ∀ (loL : Nat → Nat) (vaL : Nat → va_E) (csL ssL aL nlL phL : Nat), LayS cI ob td w c aL aL nlL pf tl phL dom loL vaL → (a ≤ aL ∧ aL + 9 ≤ a + 10) → nl ≤ nlL → (ssL + ph ≤ phL ∧ 16 * csL + ph ≤ phL) → frL loc val loL vaL → V X D CL A dom loL vaL csL ssL 21 [some (.ref (ob 2)), some (.int x), some (.int 100000000)] [] := by
    intro loL vaL csL ssL aL nlL phL hSL hcL hnL hPL hfL
    have hxL : phL ≤ 2663816 := hSL.phi
    refine v_iload_n hX d_S_addDigits_21 rfl rfl ?_
    refine v_if_le hX d_S_addDigits_22 (tgt := 48) (by decide) (fun c => absurd c (by decide)) (fun _ => ?_)
    refine v_aload_n hX d_S_addDigits_25 rfl rfl ?_
    refine v_bipush (v := 48) hX d_S_addDigits_26 (by decide) ?_
    refine v_iload_n hX d_S_addDigits_28 rfl rfl ?_
    refine v_iload_n hX d_S_addDigits_29 rfl rfl ?_
    refine v_idiv hX d_S_addDigits_30 (by decide) ?_
    refine v_bipush (v := 10) hX d_S_addDigits_31 (by decide) ?_
    refine v_irem hX d_S_addDigits_33 (by decide) ?_
    refine v_iadd hX d_S_addDigits_34 ?_
    refine v_bipush (v := 32) hX d_S_addDigits_35 (by decide) ?_
    refine c_V hX 2 (rest := []) hl (c_S_addAhead hSL (48 + ((x / 100000000) - (x / 100000000) / 10 * 10)) 32 (by omega) (by omega)) ml_S_132 im_S_addAhead se_S_addAhead in_S cd_S_addAhead rfl q_S_addAhead ⟨(Nat.le_of_ble_eq_true rfl), (Nat.le_of_ble_eq_true rfl)⟩ hSL.set.1 hSL.set.2.1 hSL.set.2.2 rfl rfl rfl rfl (Nat.le_of_ble_eq_true rfl) d_S_addDigits_37 ⟨by have a := hPL.2; have b := hxL; show _ + (120 + (2663816 - phL) / 16) ≤ 120 + (2663816 - ph) / 16; omega, by have a := hPL.1; have b := hxL; show _ + (700000 + (2663816 - phL)) ≤ 700000 + (2663816 - ph); omega⟩ (fun rv d2 lo9 va9 kc9 ns9 hp => ?_)
    obtain ⟨rfl, rfl, ⟨nl9, ph9, hS9, hm9, hp9⟩, hf9⟩ := hp
    show V X D CL A _ _ _ _ _ _ _ []
    have hP9 : (ssL + ns9) + ph ≤ ph9 ∧ 16 * (csL + kc9) + ph ≤ ph9 := ⟨by have a := hPL.1; have b := hp9.1; omega, by have a := hPL.2; have b := hp9.2; omega⟩
    have hx9 : ph9 ≤ 2663816 := hS9.phi
    have hn9 : nl ≤ nl9 := Nat.le_trans hnL hm9
    refine v_iload_n hX d_S_addDigits_40 rfl rfl ?_
    refine v_bipush (v := 10) hX d_S_addDigits_41 (by decide) ?_
    refine v_idivE (v := 10000000) hX d_S_addDigits_43 (by decide) (by decide) ?_
    refine v_istore_n (lv' := [some (.ref (ob 2)), some (.int x), some (.int 10000000)]) hX d_S_addDigits_44 rfl (Nat.le_of_ble_eq_true rfl) rfl ?_
    refine v_goto hX d_S_addDigits_45 (tgt := 21) (by decide) ?_
    exact dig7 lo9 va9 (csL + kc9) (ssL + ns9) (aL + 1) nl9 ph9 hS9 ⟨by omega, by omega⟩ hn9 hP9 (hfL.trans hf9)
  have dig9 : ∀ (loL : Nat → Nat) (vaL : Nat → va_E) (csL ssL aL nlL phL : Nat), LayS cI ob td w c aL aL nlL pf tl phL dom loL vaL → (a ≤ aL ∧ aL + 10 ≤ a + 10) → nl ≤ nlL → (ssL + ph ≤ phL ∧ 16 * csL + ph ≤ phL) → frL loc val loL vaL → V X D CL A dom loL vaL csL ssL 21 [some (.ref (ob 2)), some (.int x), some (.int 1000000000)] [] := by
    intro loL vaL csL ssL aL nlL phL hSL hcL hnL hPL hfL
    have hxL : phL ≤ 2663816 := hSL.phi
    refine v_iload_n hX d_S_addDigits_21 rfl rfl ?_
    refine v_if_le hX d_S_addDigits_22 (tgt := 48) (by decide) (fun c => absurd c (by decide)) (fun _ => ?_)
    refine v_aload_n hX d_S_addDigits_25 rfl rfl ?_
    refine v_bipush (v := 48) hX d_S_addDigits_26 (by decide) ?_
    refine v_iload_n hX d_S_addDigits_28 rfl rfl ?_
    refine v_iload_n hX d_S_addDigits_29 rfl rfl ?_
    refine v_idiv hX d_S_addDigits_30 (by decide) ?_
    refine v_bipush (v := 10) hX d_S_addDigits_31 (by decide) ?_
    refine v_irem hX d_S_addDigits_33 (by decide) ?_
    refine v_iadd hX d_S_addDigits_34 ?_
    refine v_bipush (v := 32) hX d_S_addDigits_35 (by decide) ?_
    refine c_V hX 2 (rest := []) hl (c_S_addAhead hSL (48 + ((x / 1000000000) - (x / 1000000000) / 10 * 10)) 32 (by omega) (by omega)) ml_S_132 im_S_addAhead se_S_addAhead in_S cd_S_addAhead rfl q_S_addAhead ⟨(Nat.le_of_ble_eq_true rfl), (Nat.le_of_ble_eq_true rfl)⟩ hSL.set.1 hSL.set.2.1 hSL.set.2.2 rfl rfl rfl rfl (Nat.le_of_ble_eq_true rfl) d_S_addDigits_37 ⟨by have a := hPL.2; have b := hxL; show _ + (120 + (2663816 - phL) / 16) ≤ 120 + (2663816 - ph) / 16; omega, by have a := hPL.1; have b := hxL; show _ + (700000 + (2663816 - phL)) ≤ 700000 + (2663816 - ph); omega⟩ (fun rv d2 lo10 va10 kc10 ns10 hp => ?_)
    obtain ⟨rfl, rfl, ⟨nl10, ph10, hS10, hm10, hp10⟩, hf10⟩ := hp
    show V X D CL A _ _ _ _ _ _ _ []
    have hP10 : (ssL + ns10) + ph ≤ ph10 ∧ 16 * (csL + kc10) + ph ≤ ph10 := ⟨by have a := hPL.1; have b := hp10.1; omega, by have a := hPL.2; have b := hp10.2; omega⟩
    have hx10 : ph10 ≤ 2663816 := hS10.phi
    have hn10 : nl ≤ nl10 := Nat.le_trans hnL hm10
    refine v_iload_n hX d_S_addDigits_40 rfl rfl ?_
    refine v_bipush (v := 10) hX d_S_addDigits_41 (by decide) ?_
    refine v_idivE (v := 100000000) hX d_S_addDigits_43 (by decide) (by decide) ?_
    refine v_istore_n (lv' := [some (.ref (ob 2)), some (.int x), some (.int 100000000)]) hX d_S_addDigits_44 rfl (Nat.le_of_ble_eq_true rfl) rfl ?_
    refine v_goto hX d_S_addDigits_45 (tgt := 21) (by decide) ?_
    exact dig8 lo10 va10 (csL + kc10) (ssL + ns10) (aL + 1) nl10 ph10 hS10 ⟨by omega, by omega⟩ hn10 hP10 (hfL.trans hf10)
  refine v_ldc (v := 1000000000) hX ct_S_166 d_S_addDigits_0 ?_
  refine v_istore_n (lv' := [some (.ref (ob 2)), some (.int x), some (.int 1000000000)]) hX d_S_addDigits_2 rfl (Nat.le_of_ble_eq_true rfl) rfl ?_
  refine v_iload_n hX d_S_addDigits_3 rfl rfl ?_
  refine v_iconst (v := 1) hX d_S_addDigits_4 (by decide) ?_
  refine v_icmp_le hX d_S_addDigits_5 (tgt := 21) (by decide) (fun c => absurd c (by decide)) (fun _ => ?_)
  refine v_iload_n hX d_S_addDigits_8 rfl rfl ?_
  refine v_iload_n hX d_S_addDigits_9 rfl rfl ?_
  refine v_icmp_le hX d_S_addDigits_10 (tgt := 21) (by decide) (fun c10 => ?_) (fun c10 => ?_)
  · exact dig9 loc val (0) (0) a nl ph hS ⟨by omega, by omega⟩ (Nat.le_refl nl) hP frL.rf
  · refine v_iload_n hX d_S_addDigits_13 rfl rfl ?_
    refine v_bipush (v := 10) hX d_S_addDigits_14 (by decide) ?_
    refine v_idivE (v := 100000000) hX d_S_addDigits_16 (by decide) (by decide) ?_
    refine v_istore_n (lv' := [some (.ref (ob 2)), some (.int x), some (.int 100000000)]) hX d_S_addDigits_17 rfl (Nat.le_of_ble_eq_true rfl) rfl ?_
    refine v_goto hX d_S_addDigits_18 (tgt := 3) (by decide) ?_
    refine v_iload_n hX d_S_addDigits_3 rfl rfl ?_
    refine v_iconst (v := 1) hX d_S_addDigits_4 (by decide) ?_
    refine v_icmp_le hX d_S_addDigits_5 (tgt := 21) (by decide) (fun c => absurd c (by decide)) (fun _ => ?_)
    refine v_iload_n hX d_S_addDigits_8 rfl rfl ?_
    refine v_iload_n hX d_S_addDigits_9 rfl rfl ?_
    refine v_icmp_le hX d_S_addDigits_10 (tgt := 21) (by decide) (fun c10 => ?_) (fun c10 => ?_)
    · exact dig8 loc val (0) (0) a nl ph hS ⟨by omega, by omega⟩ (Nat.le_refl nl) hP frL.rf
    · refine v_iload_n hX d_S_addDigits_13 rfl rfl ?_
      refine v_bipush (v := 10) hX d_S_addDigits_14 (by decide) ?_
      refine v_idivE (v := 10000000) hX d_S_addDigits_16 (by decide) (by decide) ?_
      refine v_istore_n (lv' := [some (.ref (ob 2)), some (.int x), some (.int 10000000)]) hX d_S_addDigits_17 rfl (Nat.le_of_ble_eq_true rfl) rfl ?_
      refine v_goto hX d_S_addDigits_18 (tgt := 3) (by decide) ?_
      refine v_iload_n hX d_S_addDigits_3 rfl rfl ?_
      refine v_iconst (v := 1) hX d_S_addDigits_4 (by decide) ?_
      refine v_icmp_le hX d_S_addDigits_5 (tgt := 21) (by decide) (fun c => absurd c (by decide)) (fun _ => ?_)
      refine v_iload_n hX d_S_addDigits_8 rfl rfl ?_
      refine v_iload_n hX d_S_addDigits_9 rfl rfl ?_
      refine v_icmp_le hX d_S_addDigits_10 (tgt := 21) (by decide) (fun c10 => ?_) (fun c10 => ?_)
      · exact dig7 loc val (0) (0) a nl ph hS ⟨by omega, by omega⟩ (Nat.le_refl nl) hP frL.rf
      · refine v_iload_n hX d_S_addDigits_13 rfl rfl ?_
        refine v_bipush (v := 10) hX d_S_addDigits_14 (by decide) ?_
        refine v_idivE (v := 1000000) hX d_S_addDigits_16 (by decide) (by decide) ?_
        refine v_istore_n (lv' := [some (.ref (ob 2)), some (.int x), some (.int 1000000)]) hX d_S_addDigits_17 rfl (Nat.le_of_ble_eq_true rfl) rfl ?_
        refine v_goto hX d_S_addDigits_18 (tgt := 3) (by decide) ?_
        refine v_iload_n hX d_S_addDigits_3 rfl rfl ?_
        refine v_iconst (v := 1) hX d_S_addDigits_4 (by decide) ?_
        refine v_icmp_le hX d_S_addDigits_5 (tgt := 21) (by decide) (fun c => absurd c (by decide)) (fun _ => ?_)
        refine v_iload_n hX d_S_addDigits_8 rfl rfl ?_
        refine v_iload_n hX d_S_addDigits_9 rfl rfl ?_
        refine v_icmp_le hX d_S_addDigits_10 (tgt := 21) (by decide) (fun c10 => ?_) (fun c10 => ?_)
        · exact dig6 loc val (0) (0) a nl ph hS ⟨by omega, by omega⟩ (Nat.le_refl nl) hP frL.rf
        · refine v_iload_n hX d_S_addDigits_13 rfl rfl ?_
          refine v_bipush (v := 10) hX d_S_addDigits_14 (by decide) ?_
          refine v_idivE (v := 100000) hX d_S_addDigits_16 (by decide) (by decide) ?_
          refine v_istore_n (lv' := [some (.ref (ob 2)), some (.int x), some (.int 100000)]) hX d_S_addDigits_17 rfl (Nat.le_of_ble_eq_true rfl) rfl ?_
          refine v_goto hX d_S_addDigits_18 (tgt := 3) (by decide) ?_
          refine v_iload_n hX d_S_addDigits_3 rfl rfl ?_
          refine v_iconst (v := 1) hX d_S_addDigits_4 (by decide) ?_
          refine v_icmp_le hX d_S_addDigits_5 (tgt := 21) (by decide) (fun c => absurd c (by decide)) (fun _ => ?_)
          refine v_iload_n hX d_S_addDigits_8 rfl rfl ?_
          refine v_iload_n hX d_S_addDigits_9 rfl rfl ?_
          refine v_icmp_le hX d_S_addDigits_10 (tgt := 21) (by decide) (fun c10 => ?_) (fun c10 => ?_)
          · exact dig5 loc val (0) (0) a nl ph hS ⟨by omega, by omega⟩ (Nat.le_refl nl) hP frL.rf
          · refine v_iload_n hX d_S_addDigits_13 rfl rfl ?_
            refine v_bipush (v := 10) hX d_S_addDigits_14 (by decide) ?_
            refine v_idivE (v := 10000) hX d_S_addDigits_16 (by decide) (by decide) ?_
            refine v_istore_n (lv' := [some (.ref (ob 2)), some (.int x), some (.int 10000)]) hX d_S_addDigits_17 rfl (Nat.le_of_ble_eq_true rfl) rfl ?_
            refine v_goto hX d_S_addDigits_18 (tgt := 3) (by decide) ?_
            refine v_iload_n hX d_S_addDigits_3 rfl rfl ?_
            refine v_iconst (v := 1) hX d_S_addDigits_4 (by decide) ?_
            refine v_icmp_le hX d_S_addDigits_5 (tgt := 21) (by decide) (fun c => absurd c (by decide)) (fun _ => ?_)
            refine v_iload_n hX d_S_addDigits_8 rfl rfl ?_
            refine v_iload_n hX d_S_addDigits_9 rfl rfl ?_
            refine v_icmp_le hX d_S_addDigits_10 (tgt := 21) (by decide) (fun c10 => ?_) (fun c10 => ?_)
            · exact dig4 loc val (0) (0) a nl ph hS ⟨by omega, by omega⟩ (Nat.le_refl nl) hP frL.rf
            · refine v_iload_n hX d_S_addDigits_13 rfl rfl ?_
              refine v_bipush (v := 10) hX d_S_addDigits_14 (by decide) ?_
              refine v_idivE (v := 1000) hX d_S_addDigits_16 (by decide) (by decide) ?_
              refine v_istore_n (lv' := [some (.ref (ob 2)), some (.int x), some (.int 1000)]) hX d_S_addDigits_17 rfl (Nat.le_of_ble_eq_true rfl) rfl ?_
              refine v_goto hX d_S_addDigits_18 (tgt := 3) (by decide) ?_
              refine v_iload_n hX d_S_addDigits_3 rfl rfl ?_
              refine v_iconst (v := 1) hX d_S_addDigits_4 (by decide) ?_
              refine v_icmp_le hX d_S_addDigits_5 (tgt := 21) (by decide) (fun c => absurd c (by decide)) (fun _ => ?_)
              refine v_iload_n hX d_S_addDigits_8 rfl rfl ?_
              refine v_iload_n hX d_S_addDigits_9 rfl rfl ?_
              refine v_icmp_le hX d_S_addDigits_10 (tgt := 21) (by decide) (fun c10 => ?_) (fun c10 => ?_)
              · exact dig3 loc val (0) (0) a nl ph hS ⟨by omega, by omega⟩ (Nat.le_refl nl) hP frL.rf
              · refine v_iload_n hX d_S_addDigits_13 rfl rfl ?_
                refine v_bipush (v := 10) hX d_S_addDigits_14 (by decide) ?_
                refine v_idivE (v := 100) hX d_S_addDigits_16 (by decide) (by decide) ?_
                refine v_istore_n (lv' := [some (.ref (ob 2)), some (.int x), some (.int 100)]) hX d_S_addDigits_17 rfl (Nat.le_of_ble_eq_true rfl) rfl ?_
                refine v_goto hX d_S_addDigits_18 (tgt := 3) (by decide) ?_
                refine v_iload_n hX d_S_addDigits_3 rfl rfl ?_
                refine v_iconst (v := 1) hX d_S_addDigits_4 (by decide) ?_
                refine v_icmp_le hX d_S_addDigits_5 (tgt := 21) (by decide) (fun c => absurd c (by decide)) (fun _ => ?_)
                refine v_iload_n hX d_S_addDigits_8 rfl rfl ?_
                refine v_iload_n hX d_S_addDigits_9 rfl rfl ?_
                refine v_icmp_le hX d_S_addDigits_10 (tgt := 21) (by decide) (fun c10 => ?_) (fun c10 => ?_)
                · exact dig2 loc val (0) (0) a nl ph hS ⟨by omega, by omega⟩ (Nat.le_refl nl) hP frL.rf
                · refine v_iload_n hX d_S_addDigits_13 rfl rfl ?_
                  refine v_bipush (v := 10) hX d_S_addDigits_14 (by decide) ?_
                  refine v_idivE (v := 10) hX d_S_addDigits_16 (by decide) (by decide) ?_
                  refine v_istore_n (lv' := [some (.ref (ob 2)), some (.int x), some (.int 10)]) hX d_S_addDigits_17 rfl (Nat.le_of_ble_eq_true rfl) rfl ?_
                  refine v_goto hX d_S_addDigits_18 (tgt := 3) (by decide) ?_
                  refine v_iload_n hX d_S_addDigits_3 rfl rfl ?_
                  refine v_iconst (v := 1) hX d_S_addDigits_4 (by decide) ?_
                  refine v_icmp_le hX d_S_addDigits_5 (tgt := 21) (by decide) (fun c => absurd c (by decide)) (fun _ => ?_)
                  refine v_iload_n hX d_S_addDigits_8 rfl rfl ?_
                  refine v_iload_n hX d_S_addDigits_9 rfl rfl ?_
                  refine v_icmp_le hX d_S_addDigits_10 (tgt := 21) (by decide) (fun c10 => ?_) (fun c10 => ?_)
                  · exact dig1 loc val (0) (0) a nl ph hS ⟨by omega, by omega⟩ (Nat.le_refl nl) hP frL.rf
                  · refine v_iload_n hX d_S_addDigits_13 rfl rfl ?_
                    refine v_bipush (v := 10) hX d_S_addDigits_14 (by decide) ?_
                    refine v_idivE (v := 1) hX d_S_addDigits_16 (by decide) (by decide) ?_
                    refine v_istore_n (lv' := [some (.ref (ob 2)), some (.int x), some (.int 1)]) hX d_S_addDigits_17 rfl (Nat.le_of_ble_eq_true rfl) rfl ?_
                    refine v_goto hX d_S_addDigits_18 (tgt := 3) (by decide) ?_
                    refine v_iload_n hX d_S_addDigits_3 rfl rfl ?_
                    refine v_iconst (v := 1) hX d_S_addDigits_4 (by decide) ?_
                    refine v_icmp_le hX d_S_addDigits_5 (tgt := 21) (by decide) (fun _ => ?_) (fun c => absurd (by decide) c)
                    exact dig0 loc val (0) (0) a nl ph hS ⟨by omega, by omega⟩ (Nat.le_refl nl) hP frL.rf
set_option maxHeartbeats 4000000 in
set_option maxRecDepth 100000 in
theorem c_S_addSign {l : Launch} {D : va_G} {A : Nat → Prop} {cI cB cZ cJ cN : ClassId} {ob : Nat → Nat} {td w c a nl pf tl ph : Nat} {dom : Nat → Prop} {loc : Nat → Nat} {val : Nat → va_E} (hS : LayS cI ob td w c a a nl pf tl ph dom loc val) (x y : Int32) (ha : a + 12 ≤ 200) : kM l y_S_addSign (Cond.code y_S_addSign b_S_addSign 3 none :: TT) (rmP 5 ph) D CL (TY cI cB cZ cJ cN) A [.ref (ob 2), .int x, .int y] dom loc val (PSa cI ob td w c a 12 nl pf tl ph dom loc val) := by
  refine kM_of (lv0 := [some (.ref (ob 2)), some (.int x), some (.int y)]) (own := "ProsePages$Setter") (by decide) rfl (List.forall_mem_cons.mpr ⟨rfl, List.forall_mem_cons.mpr ⟨rfl, List.forall_mem_cons.mpr ⟨rfl, fun _ h => nomatch h⟩⟩⟩) (Nat.le_of_ble_eq_true rfl) rfl (Nat.le_of_ble_eq_true rfl) (fun X hl hX hE hin0 => ?_)
  have hP : 0 + ph ≤ ph ∧ 16 * 0 + ph ≤ ph := ⟨by omega, by omega⟩
  have hx : ph ≤ 2663816 := hS.phi
  refine v_iload_n hX d_S_addSign_0 rfl rfl ?_
  refine v_iconst (v := 5) hX d_S_addSign_1 (by decide) ?_
  refine v_icmp_ne hX d_S_addSign_2 (tgt := 16) (by decide) (fun c2 => ?_) (fun c2 => ?_)
  · refine v_aload_n hX d_S_addSign_16 rfl rfl ?_
    refine v_iload_n hX d_S_addSign_17 rfl rfl ?_
    refine c_V hX 2 (rest := []) hl (c_S_addDigits hS y (by omega)) ml_S_163 im_S_addDigits se_S_addDigits in_S cd_S_addDigits rfl q_S_addDigits ⟨(Nat.le_of_ble_eq_true rfl), (Nat.le_of_ble_eq_true rfl)⟩ hS.set.1 hS.set.2.1 hS.set.2.2 rfl rfl rfl rfl (Nat.le_of_ble_eq_true rfl) d_S_addSign_18 ⟨by have a := hP.2; have b := hx; show _ + (120 + (2663816 - ph) / 16) ≤ 120 + (2663816 - ph) / 16; omega, by have a := hP.1; have b := hx; show _ + (700000 + (2663816 - ph)) ≤ 700000 + (2663816 - ph); omega⟩ (fun rv d2 lo1 va1 kc1 ns1 hp => ?_)
    obtain ⟨rfl, rfl, ⟨aa1, nl1, ph1, ⟨hu1, hv1⟩, hS1, hm1, hp1⟩, hf1⟩ := hp
    show V X D CL A _ _ _ _ _ _ _ []
    have hP1 : (0 + ns1) + ph ≤ ph1 ∧ 16 * (0 + kc1) + ph ≤ ph1 := ⟨by have a := hP.1; have b := hp1.1; omega, by have a := hP.2; have b := hp1.2; omega⟩
    have hx1 : ph1 ≤ 2663816 := hS1.phi
    have hn1 : nl ≤ nl1 := Nat.le_trans (Nat.le_refl nl) hm1
    refine v_aload_n hX d_S_addSign_21 rfl rfl ?_
    refine v_bipush (v := 46) hX d_S_addSign_22 (by decide) ?_
    refine v_bipush (v := 32) hX d_S_addSign_24 (by decide) ?_
    refine c_V hX 2 (rest := []) hl (c_S_addAhead hS1 46 32 (by omega) (by omega)) ml_S_132 im_S_addAhead se_S_addAhead in_S cd_S_addAhead rfl q_S_addAhead ⟨(Nat.le_of_ble_eq_true rfl), (Nat.le_of_ble_eq_true rfl)⟩ hS1.set.1 hS1.set.2.1 hS1.set.2.2 rfl rfl rfl rfl (Nat.le_of_ble_eq_true rfl) d_S_addSign_26 ⟨by have a := hP1.2; have b := hx1; show _ + (120 + (2663816 - ph1) / 16) ≤ 120 + (2663816 - ph) / 16; omega, by have a := hP1.1; have b := hx1; show _ + (700000 + (2663816 - ph1)) ≤ 700000 + (2663816 - ph); omega⟩ (fun rv d2 lo2 va2 kc2 ns2 hp => ?_)
    obtain ⟨rfl, rfl, ⟨nl2, ph2, hS2, hm2, hp2⟩, hf2⟩ := hp
    show V X D CL A _ _ _ _ _ _ _ []
    have hP2 : (0 + ns1 + ns2) + ph ≤ ph2 ∧ 16 * (0 + kc1 + kc2) + ph ≤ ph2 := ⟨by have a := hP1.1; have b := hp2.1; omega, by have a := hP1.2; have b := hp2.2; omega⟩
    have hx2 : ph2 ≤ 2663816 := hS2.phi
    have hn2 : nl ≤ nl2 := Nat.le_trans hn1 hm2
    refine v_aload_n hX d_S_addSign_29 rfl rfl ?_
    refine v_bipush (v := 32) hX d_S_addSign_30 (by decide) ?_
    refine v_bipush (v := 32) hX d_S_addSign_32 (by decide) ?_
    refine c_V hX 2 (rest := []) hl (c_S_addAhead hS2 32 32 (by omega) (by omega)) ml_S_132 im_S_addAhead se_S_addAhead in_S cd_S_addAhead rfl q_S_addAhead ⟨(Nat.le_of_ble_eq_true rfl), (Nat.le_of_ble_eq_true rfl)⟩ hS2.set.1 hS2.set.2.1 hS2.set.2.2 rfl rfl rfl rfl (Nat.le_of_ble_eq_true rfl) d_S_addSign_34 ⟨by have a := hP2.2; have b := hx2; show _ + (120 + (2663816 - ph2) / 16) ≤ 120 + (2663816 - ph) / 16; omega, by have a := hP2.1; have b := hx2; show _ + (700000 + (2663816 - ph2)) ≤ 700000 + (2663816 - ph); omega⟩ (fun rv d2 lo3 va3 kc3 ns3 hp => ?_)
    obtain ⟨rfl, rfl, ⟨nl3, ph3, hS3, hm3, hp3⟩, hf3⟩ := hp
    show V X D CL A _ _ _ _ _ _ _ []
    have hP3 : (0 + ns1 + ns2 + ns3) + ph ≤ ph3 ∧ 16 * (0 + kc1 + kc2 + kc3) + ph ≤ ph3 := ⟨by have a := hP2.1; have b := hp3.1; omega, by have a := hP2.2; have b := hp3.2; omega⟩
    have hx3 : ph3 ≤ 2663816 := hS3.phi
    have hn3 : nl ≤ nl3 := Nat.le_trans hn2 hm3
    exact v_vret hX hE d_S_addSign_37 (by have a := hP3.2; have b := hx3; show _ ≤ 120 + (2663816 - ph) / 16; omega) (by have a := hP3.1; have b := hx3; show _ ≤ 700000 + (2663816 - ph); omega) ⟨rfl, rfl, ⟨((aa1 + 1) + 1), nl3, ph3, ⟨by omega, by omega⟩, hS3, hn3, by have a := hP3.1; have b := hP3.2; exact ⟨by omega, by omega⟩⟩, (((frL.rf.trans hf1).trans hf2).trans hf3)⟩
  · refine v_aload_n hX d_S_addSign_5 rfl rfl ?_
    refine v_bipush (v := 42) hX d_S_addSign_6 (by decide) ?_
    refine v_bipush (v := 32) hX d_S_addSign_8 (by decide) ?_
    refine c_V hX 2 (rest := []) hl (c_S_addAhead hS 42 32 (by omega) (by omega)) ml_S_132 im_S_addAhead se_S_addAhead in_S cd_S_addAhead rfl q_S_addAhead ⟨(Nat.le_of_ble_eq_true rfl), (Nat.le_of_ble_eq_true rfl)⟩ hS.set.1 hS.set.2.1 hS.set.2.2 rfl rfl rfl rfl (Nat.le_of_ble_eq_true rfl) d_S_addSign_10 ⟨by have a := hP.2; have b := hx; show _ + (120 + (2663816 - ph) / 16) ≤ 120 + (2663816 - ph) / 16; omega, by have a := hP.1; have b := hx; show _ + (700000 + (2663816 - ph)) ≤ 700000 + (2663816 - ph); omega⟩ (fun rv d2 lo4 va4 kc4 ns4 hp => ?_)
    obtain ⟨rfl, rfl, ⟨nl4, ph4, hS4, hm4, hp4⟩, hf4⟩ := hp
    show V X D CL A _ _ _ _ _ _ _ []
    have hP4 : (0 + ns4) + ph ≤ ph4 ∧ 16 * (0 + kc4) + ph ≤ ph4 := ⟨by have a := hP.1; have b := hp4.1; omega, by have a := hP.2; have b := hp4.2; omega⟩
    have hx4 : ph4 ≤ 2663816 := hS4.phi
    have hn4 : nl ≤ nl4 := Nat.le_trans (Nat.le_refl nl) hm4
    refine v_goto hX d_S_addSign_13 (tgt := 29) (by decide) ?_
    refine v_aload_n hX d_S_addSign_29 rfl rfl ?_
    refine v_bipush (v := 32) hX d_S_addSign_30 (by decide) ?_
    refine v_bipush (v := 32) hX d_S_addSign_32 (by decide) ?_
    refine c_V hX 2 (rest := []) hl (c_S_addAhead hS4 32 32 (by omega) (by omega)) ml_S_132 im_S_addAhead se_S_addAhead in_S cd_S_addAhead rfl q_S_addAhead ⟨(Nat.le_of_ble_eq_true rfl), (Nat.le_of_ble_eq_true rfl)⟩ hS4.set.1 hS4.set.2.1 hS4.set.2.2 rfl rfl rfl rfl (Nat.le_of_ble_eq_true rfl) d_S_addSign_34 ⟨by have a := hP4.2; have b := hx4; show _ + (120 + (2663816 - ph4) / 16) ≤ 120 + (2663816 - ph) / 16; omega, by have a := hP4.1; have b := hx4; show _ + (700000 + (2663816 - ph4)) ≤ 700000 + (2663816 - ph); omega⟩ (fun rv d2 lo5 va5 kc5 ns5 hp => ?_)
    obtain ⟨rfl, rfl, ⟨nl5, ph5, hS5, hm5, hp5⟩, hf5⟩ := hp
    show V X D CL A _ _ _ _ _ _ _ []
    have hP5 : (0 + ns4 + ns5) + ph ≤ ph5 ∧ 16 * (0 + kc4 + kc5) + ph ≤ ph5 := ⟨by have a := hP4.1; have b := hp5.1; omega, by have a := hP4.2; have b := hp5.2; omega⟩
    have hx5 : ph5 ≤ 2663816 := hS5.phi
    have hn5 : nl ≤ nl5 := Nat.le_trans hn4 hm5
    exact v_vret hX hE d_S_addSign_37 (by have a := hP5.2; have b := hx5; show _ ≤ 120 + (2663816 - ph) / 16; omega) (by have a := hP5.1; have b := hx5; show _ ≤ 700000 + (2663816 - ph); omega) ⟨rfl, rfl, ⟨((a + 1) + 1), nl5, ph5, ⟨by omega, by omega⟩, hS5, hn5, by have a := hP5.1; have b := hP5.2; exact ⟨by omega, by omega⟩⟩, ((frL.rf.trans hf4).trans hf5)⟩
