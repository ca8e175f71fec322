set_option maxHeartbeats 4000000 in
set_option maxRecDepth 100000 in
theorem c_M_beginNode {l : Launch} {D : va_G} {A : Nat → Prop} {cI cB cZ cJ cN : ClassId} {ob : Nat → Nat} {C : CT} {T : TS} {O : OS} {dom : Nat → Prop} {loc : Nat → Nat} {val : Nat → va_E} (hM : ModI cI cB cZ ob C T O dom loc val) (hO : OI O) {i : Nat} (hi : 0 < i ∧ i < ttN T) (hT : TrI T) (hS : SI T (pu T i) C) (hwm : zWm C ≤ sumN (ttMa T) i) (hb : zCnt C < 30000000) (hc : ooCt O = 0 → zCnt (bn T i C) ≤ 1501) : kM l y_M_beginNode (Cond.code y_M_beginNode b_M_beginNode 7 none :: TT) (rmM 8) D CL (TY cI cB cZ cJ cN) A [.ref (ob 48), .int (nI i)] dom loc val (PMo cI cB cZ ob T O dom loc val (fun rv C2 O2 => rv = none ∧ bn T i C = C2)) := by
  refine kM_of (lv0 := [some (.ref (ob 48)), some (.int (nI i)), none, none, none, none, none]) (own := "ProsePagesModel") (by decide) rfl (List.forall_mem_cons.mpr ⟨rfl, List.forall_mem_cons.mpr ⟨rfl, fun _ h => nomatch h⟩⟩) (Nat.le_of_ble_eq_true rfl) rfl (Nat.le_of_ble_eq_true rfl) (fun X hl hX hE hin0 => ?_)
  have hTn := hT.1
  obtain ⟨hi0, hi1⟩ := hi
  obtain ⟨b1, b2, b3, b4, b5, b6, b7, b8⟩ := hT.2.2.1 i hi0 hi1
  have hsum := hT.sum hi1
  have hcc := hT.hc (pu T i) (by omega)
  have hkin := ks_of b7
  simp only [KS, List.mem_cons, List.not_mem_nil, or_false] at hkin
  have hA0 := A1_ok hT ⟨hi0, hi1⟩ hS hwm hb
  have hA1c := A1_cnt hT ⟨hi0, hi1⟩ hS hwm
  have hcn : zCnt (bnA1 T i C) ≤ zCnt (bn T i C) := by have q1 := (bnB_ok hT ⟨hi0, hi1⟩ (A2_ok hT ⟨hi0, hi1⟩ hA0 hA1c.2.2) (by rw [(A2_cnt T i (bnA1 T i C)).1]; omega)).2.2.1; rw [(A2_cnt T i (bnA1 T i C)).1] at q1; exact q1
  have hq0 : bnB T i (bnA2 T i (bnA1 T i C)) = bn T i C := rfl
  have hS1 := hS.1
  have hS3 := hS.2.2.1
  have j182 : ∀ (v3 ic : Int32) (CJ : CT) (oJ : OS) (vaJ : Nat → va_E), ModI cI cB cZ ob CJ T oJ dom loc vaJ → (OI oJ ∧ ooCt oJ = ooCt O) → frM val vaJ → (SA T i CJ) → (bnB T i CJ = bn T i C) → (zCnt CJ < 40000000) → (ttK T i = 10 → (ttK T (pu T i) = 3 ∧ ic = 1) ∨ (¬ ttK T (pu T i) = 3 ∧ ic = 0)) → (wvF T CJ = v3) → V X D CL A dom loc vaJ 0 0 182 [some (.ref (ob 48)), some (.int (nI i)), some (.int (ttK T i)), some (.int v3), some (.int ic), none, none] [] := by
    intro v3 ic CJ oJ vaJ hMJ hOJ hfJ hA hq hcb hic hv3
    obtain ⟨a1, a2, a3, a4, a5, a6, a7⟩ := hA
    have h1 : 1 ≤ zHo CJ := by omega
    have h13 : zHo CJ ≤ 13 := by omega
    obtain ⟨w1, w2, w3⟩ := WI_wdt a2 h1
    have hcJ : ooCt O = 0 → zCnt (bnB T i CJ) ≤ 1501 := by rw [hq]; exact hc
    rcases hkin with e | e | e | e | e | e | e | e | e | e | e
    · rw [e]
      have qk : bnB T i CJ = bl CJ := by simp [bnB, e]
      refine v_iload_n hX d_M_beginNode_182 rfl rfl ?_
      refine v_tableIn hX d_M_beginNode_183 (tgt := 379) (by decide) (by decide) (off := 196) (by decide) (by decide) ?_
      refine v_aload_n hX d_M_beginNode_379 rfl rfl ?_
      refine c_V hX 48 (rest := []) hl (c_M_beginLeaf hMJ hOJ.1 ⟨by omega, by omega⟩ w1) ml_M_204 im_M_beginLeaf se_M_beginLeaf in_M cd_M_beginLeaf rfl q_M_beginLeaf ⟨(Nat.le_of_ble_eq_true rfl), (Nat.le_of_ble_eq_true rfl)⟩ hMJ.1.1 hMJ.1.2.1 hMJ.1.2.2 rfl rfl rfl rfl (Nat.le_of_ble_eq_true rfl) d_M_beginNode_380 ⟨(Nat.le_of_ble_eq_true rfl), (Nat.le_of_ble_eq_true rfl)⟩ (fun rv d2 lo2 va1 kc ns hp => ?_)
      obtain ⟨rfl, rfl, rfl, rfl, C1, o1, ⟨rfl, hC1⟩, hM1, hO1, hf1⟩ := hp
      show V X D CL A _ _ _ _ _ _ _ []
      have hg1 := bl_ok CJ
      rw [hC1] at hg1
      obtain ⟨hk1h, hk1l, hw1, hn1, hu1, hz1, hy1, hx1⟩ := hg1
      refine v_goto hX d_M_beginNode_383 (tgt := 538) (by decide) ?_
      exact v_vret hX hE d_M_beginNode_538 (Nat.le_of_ble_eq_true rfl) (Nat.le_of_ble_eq_true rfl) ⟨rfl, rfl, rfl, rfl, C1, o1, ⟨rfl, hq.symm.trans (qk.trans hC1)⟩, hM1, ⟨hO1.1, (hO1.2.trans hOJ.2)⟩, (hfJ.trans hf1)⟩
    · rw [e]
      have qk : bnB T i CJ = ew (hearN (ttNu T i).toNatClampNeg (bl CJ)) := by simp [bnB, e, hgF]
      obtain ⟨n1, n2⟩ := nu_le (b8 e)
      generalize (ttNu T i).toNatClampNeg = hn9 at n1 n2 qk
      refine v_iload_n hX d_M_beginNode_182 rfl rfl ?_
      refine v_tableIn hX d_M_beginNode_183 (tgt := 386) (by decide) (by decide) (off := 203) (by decide) (by decide) ?_
      refine v_aload_n hX d_M_beginNode_386 rfl rfl ?_
      refine c_V hX 48 (rest := []) hl (c_M_beginLeaf hMJ hOJ.1 ⟨by omega, by omega⟩ w1) ml_M_204 im_M_beginLeaf se_M_beginLeaf in_M cd_M_beginLeaf rfl q_M_beginLeaf ⟨(Nat.le_of_ble_eq_true rfl), (Nat.le_of_ble_eq_true rfl)⟩ hMJ.1.1 hMJ.1.2.1 hMJ.1.2.2 rfl rfl rfl rfl (Nat.le_of_ble_eq_true rfl) d_M_beginNode_387 ⟨(Nat.le_of_ble_eq_true rfl), (Nat.le_of_ble_eq_true rfl)⟩ (fun rv d2 lo2 va2 kc ns hp => ?_)
      obtain ⟨rfl, rfl, rfl, rfl, C2, o2, ⟨rfl, hC2⟩, hM2, hO2, hf2⟩ := hp
      show V X D CL A _ _ _ _ _ _ _ []
      have hg2 := bl_ok CJ
      rw [hC2] at hg2
      obtain ⟨hk2h, hk2l, hw2, hn2, hu2, hz2, hy2, hx2⟩ := hg2
      refine v_iconst (v := 0) hX d_M_beginNode_390 (by decide) ?_
      refine v_istore (lv' := [some (.ref (ob 48)), some (.int (nI i)), some (.int 1), some (.int v3), some (.int ic), none, some (.int 0)]) hX d_M_beginNode_391 (Nat.le_of_ble_eq_true rfl) rfl ?_
      have loop393 : ∀ (m9 : Nat) (j : Nat) (CL393 : CT) (oL393 : OS) (vaL393 : Nat → va_E), hn9 - j < m9 → ModI cI cB cZ ob CL393 T oL393 dom loc vaL393 → (OI oL393 ∧ ooCt oL393 = ooCt O) → frM val vaL393 → (j ≤ hn9) → (hearN (hn9 - j) CL393 = hearN hn9 C2) → (zHo CL393 = zHo CJ ∧ zLw CL393 = wdt CJ ∧ zNm CL393 ≤ wdt CJ ∧ zWm CL393 ≤ j) → V X D CL A dom loc vaL393 0 0 393 [some (.ref (ob 48)), some (.int (nI i)), some (.int 1), some (.int v3), some (.int ic), none, some (.int (nI j))] [] := by
        intro m9
        induction m9 with
        | zero => intro j CL393 oL393 vaL393 hk393 hML393 hOL393 hfL393 hj393 hL393 hc393; exact absurd hk393 (Nat.not_lt_zero _)
        | succ m9 ih393 =>
          intro j CL393 oL393 vaL393 hk393 hML393 hOL393 hfL393 hj393 hL393 hc393
          obtain ⟨hm1, hm2, hm3, hm4⟩ := hc393
          refine v_iload hX d_M_beginNode_393 rfl ?_
          refine v_aload_n hX d_M_beginNode_395 rfl rfl ?_
          refine v_mget hX hML393 3 (v := .ref (ob 51)) (by decide) fl_M_16 rfl rfl d_M_beginNode_396 ?_
          refine v_iload_n hX d_M_beginNode_399 rfl rfl ?_
          refine v_mild hX hML393 2 (i := i) (v := (nI hn9)) ga_number (by omega) (by decide) n2 d_M_beginNode_400 ?_
          refine v_icmp_ge hX d_M_beginNode_401 (tgt := 416) (by decide) (fun c401 => ?_) (fun c401 => ?_)
          · have f401 : hn9 ≤ j := (nI_leI (a := hn9) (b := j) (by omega) (by omega)).mp c401
            have hLe : CL393 = hearN hn9 C2 := by rw [← hL393, show hn9 - j = 0 by omega]; rfl
            refine v_aload_n hX d_M_beginNode_416 rfl rfl ?_
            refine c_V hX 48 (rest := []) hl (c_M_endWord hML393 hOL393.1 (by omega) ⟨by omega, by omega⟩ (by omega) (by omega) (fun z => by have q1 := hcJ (hOL393.2.symm.trans z); rw [qk, hC2, ← hLe] at q1; exact q1)) ml_M_195 im_M_endWord se_M_endWord in_M cd_M_endWord rfl q_M_endWord ⟨(Nat.le_of_ble_eq_true rfl), (Nat.le_of_ble_eq_true rfl)⟩ hML393.1.1 hML393.1.2.1 hML393.1.2.2 rfl rfl rfl rfl (Nat.le_of_ble_eq_true rfl) d_M_beginNode_417 ⟨(Nat.le_of_ble_eq_true rfl), (Nat.le_of_ble_eq_true rfl)⟩ (fun rv d2 lo2 va3 kc ns hp => ?_)
            obtain ⟨rfl, rfl, rfl, rfl, C3, o3, ⟨rfl, hC3⟩, hM3, hO3, hf3⟩ := hp
            show V X D CL A _ _ _ _ _ _ _ []
            have hg3 := ew_ok CL393 (by omega) (by omega)
            rw [hC3] at hg3
            obtain ⟨hk3, hw3, hn3, hu3, hv3⟩ := hg3
            obtain ⟨hk3h, hk3l, -⟩ := hk3
            refine v_goto hX d_M_beginNode_420 (tgt := 538) (by decide) ?_
            exact v_vret hX hE d_M_beginNode_538 (Nat.le_of_ble_eq_true rfl) (Nat.le_of_ble_eq_true rfl) ⟨rfl, rfl, rfl, rfl, C3, o3, ⟨rfl, (by rw [← hq, qk, hC2, ← hLe]; exact hC3)⟩, hM3, ⟨hO3.1, (hO3.2.trans hOL393.2)⟩, (hfL393.trans hf3)⟩
          · have f401 : ¬ hn9 ≤ j := fun z => c401 ((nI_leI (a := hn9) (b := j) (by omega) (by omega)).mpr z)
            refine v_aload_n hX d_M_beginNode_404 rfl rfl ?_
            refine v_bipush (v := 61) hX d_M_beginNode_405 (by decide) ?_
            refine c_V hX 48 (rest := []) hl (c_M_hear hML393 hOL393.1 61 (by omega) ⟨by omega, by omega⟩ (by omega) (by omega) (fun z => by have q1 := hcJ (hOL393.2.symm.trans z); have q2 := hearN_mono (hn9 - (j + 1)) (hearF 61 CL393); rw [hearN_1 hL393 (by omega)] at q2; have q3 := ew_mono (hearN hn9 C2); rw [qk, hC2] at q1; omega)) ml_M_220 im_M_hear se_M_hear in_M cd_M_hear rfl q_M_hear ⟨(Nat.le_of_ble_eq_true rfl), (Nat.le_of_ble_eq_true rfl)⟩ hML393.1.1 hML393.1.2.1 hML393.1.2.2 rfl rfl rfl rfl (Nat.le_of_ble_eq_true rfl) d_M_beginNode_407 ⟨(Nat.le_of_ble_eq_true rfl), (Nat.le_of_ble_eq_true rfl)⟩ (fun rv d2 lo2 va4 kc ns hp => ?_)
            obtain ⟨rfl, rfl, rfl, rfl, C4, o4, ⟨rfl, hC4⟩, hM4, hO4, hf4⟩ := hp
            show V X D CL A _ _ _ _ _ _ _ []
            have hg4 := hearF_ok 61 CL393 (by omega) (by omega) (by omega) (by omega)
            rw [hC4] at hg4
            obtain ⟨hk4, hn4, hw4, hu4, hv4, -⟩ := hg4
            obtain ⟨hk4h, hk4l, -⟩ := hk4
            refine v_iinc (y := (nI (j + 1))) (lv' := [some (.ref (ob 48)), some (.int (nI i)), some (.int 1), some (.int v3), some (.int ic), none, some (.int (nI (j + 1)))]) hX d_M_beginNode_410 rfl (nI_1 j) rfl ?_
            refine v_goto hX d_M_beginNode_413 (tgt := 393) (by decide) ?_
            exact ih393 (j + 1) C4 o4 va4 (by omega) hM4 ⟨hO4.1, (hO4.2.trans hOL393.2)⟩ (hfL393.trans hf4) (by omega) (by rw [← hC4]; exact hearN_1 hL393 (by omega)) ⟨by omega, by omega, by omega, by omega⟩
      exact loop393 _ 0 C2 o2 va2 (Nat.lt_succ_self _) hM2 ⟨hO2.1, (hO2.2.trans hOJ.2)⟩ (hfJ.trans hf2) (Nat.zero_le _) rfl ⟨by omega, by omega, by omega, by omega⟩
    · rw [e]
      have qk : bnB T i CJ = el (szNm (bl CJ) (wdt CJ)) := by simp [bnB, e, ruF]
      refine v_iload_n hX d_M_beginNode_182 rfl rfl ?_
      refine v_tableIn hX d_M_beginNode_183 (tgt := 423) (by decide) (by decide) (off := 240) (by decide) (by decide) ?_
      refine v_aload_n hX d_M_beginNode_423 rfl rfl ?_
      refine c_V hX 48 (rest := []) hl (c_M_beginLeaf hMJ hOJ.1 ⟨by omega, by omega⟩ w1) ml_M_204 im_M_beginLeaf se_M_beginLeaf in_M cd_M_beginLeaf rfl q_M_beginLeaf ⟨(Nat.le_of_ble_eq_true rfl), (Nat.le_of_ble_eq_true rfl)⟩ hMJ.1.1 hMJ.1.2.1 hMJ.1.2.2 rfl rfl rfl rfl (Nat.le_of_ble_eq_true rfl) d_M_beginNode_424 ⟨(Nat.le_of_ble_eq_true rfl), (Nat.le_of_ble_eq_true rfl)⟩ (fun rv d2 lo2 va5 kc ns hp => ?_)
      obtain ⟨rfl, rfl, rfl, rfl, C5, o5, ⟨rfl, hC5⟩, hM5, hO5, hf5⟩ := hp
      show V X D CL A _ _ _ _ _ _ _ []
      have hg5 := bl_ok CJ
      rw [hC5] at hg5
      obtain ⟨hk5h, hk5l, hw5, hn5, hu5, hz5, hy5, hx5⟩ := hg5
      refine v_iconst (v := 0) hX d_M_beginNode_427 (by decide) ?_
      refine v_istore (lv' := [some (.ref (ob 48)), some (.int (nI i)), some (.int 2), some (.int v3), some (.int ic), none, some (.int 0)]) hX d_M_beginNode_428 (Nat.le_of_ble_eq_true rfl) rfl ?_
      have loop430 : ∀ (m9 : Nat) (j : Nat) (CL430 : CT) (oL430 : OS) (vaL430 : Nat → va_E), zLw C5 - j < m9 → ModI cI cB cZ ob CL430 T oL430 dom loc vaL430 → (OI oL430 ∧ ooCt oL430 = ooCt O) → frM val vaL430 → (j ≤ zLw C5) → (C5 = CL430) → V X D CL A dom loc vaL430 0 0 430 [some (.ref (ob 48)), some (.int (nI i)), some (.int 2), some (.int v3), some (.int ic), none, some (.int (nI j))] [] := by
        intro m9
        induction m9 with
        | zero => intro j CL430 oL430 vaL430 hk430 hML430 hOL430 hfL430 hj430 hC430; exact absurd hk430 (Nat.not_lt_zero _)
        | succ m9 ih430 =>
          intro j CL430 oL430 vaL430 hk430 hML430 hOL430 hfL430 hj430 hC430
          subst hC430
          refine v_iload hX d_M_beginNode_430 rfl ?_
          refine v_aload_n hX d_M_beginNode_432 rfl rfl ?_
          refine v_mget hX hML430 41 (v := .int (nI (zLw C5))) (by decide) fl_M_189 rfl gf_leafWidth d_M_beginNode_433 ?_
          refine v_icmp_ge hX d_M_beginNode_436 (tgt := 454) (by decide) (fun c436 => ?_) (fun c436 => ?_)
          · have f436 : (zLw C5) ≤ j := (nI_leI (a := (zLw C5)) (b := j) (by omega) (by omega)).mp c436
            have hbe : bn T i C = el (szNm C5 (zLw C5)) := by rw [← hq, qk, hC5, hk5l]
            refine v_aload_n hX d_M_beginNode_454 rfl rfl ?_
            refine v_aload_n hX d_M_beginNode_455 rfl rfl ?_
            refine v_mget hX hML430 41 (v := .int (nI (zLw C5))) (by decide) fl_M_189 rfl gf_leafWidth d_M_beginNode_456 ?_
            refine v_mput hX hML430 39 (szNm C5 (zLw C5)) T oL430 (by decide) fl_M_179 rfl rfl rfl rfl pf_nowMany pa_nowMany d_M_beginNode_459 (fun va6 hM6 hf6 => ?_)
            refine v_aload_n hX d_M_beginNode_462 rfl rfl ?_
            refine c_V hX 48 (rest := []) hl (c_M_endLeaf hM6 hOL430.1 (show zHo C5 ≤ 13 by omega) ⟨show 4 ≤ zLw C5 by omega, show zLw C5 ≤ 60 by omega⟩ (show zLw C5 ≤ zLw C5 by omega) (show zWm C5 ≤ 4010 by omega) (fun z => by have q1 := hc (hOL430.2.symm.trans z); rw [hbe] at q1; exact q1)) ml_M_210 im_M_endLeaf se_M_endLeaf in_M cd_M_endLeaf rfl q_M_endLeaf ⟨(Nat.le_of_ble_eq_true rfl), (Nat.le_of_ble_eq_true rfl)⟩ hM6.1.1 hM6.1.2.1 hM6.1.2.2 rfl rfl rfl rfl (Nat.le_of_ble_eq_true rfl) d_M_beginNode_463 ⟨(Nat.le_of_ble_eq_true rfl), (Nat.le_of_ble_eq_true rfl)⟩ (fun rv d2 lo2 va7 kc ns hp => ?_)
            obtain ⟨rfl, rfl, rfl, rfl, C7, o7, ⟨rfl, hC7⟩, hM7, hO7, hf7⟩ := hp
            show V X D CL A _ _ _ _ _ _ _ []
            refine v_goto hX d_M_beginNode_466 (tgt := 538) (by decide) ?_
            exact v_vret hX hE d_M_beginNode_538 (Nat.le_of_ble_eq_true rfl) (Nat.le_of_ble_eq_true rfl) ⟨rfl, rfl, rfl, rfl, C7, o7, ⟨rfl, hbe.trans hC7⟩, hM7, ⟨hO7.1, (hO7.2.trans hOL430.2)⟩, ((hfL430.trans hf6).trans hf7)⟩
          · have f436 : ¬ (zLw C5) ≤ j := fun z => c436 ((nI_leI (a := (zLw C5)) (b := j) (by omega) (by omega)).mpr z)
            refine v_aload_n hX d_M_beginNode_439 rfl rfl ?_
            refine v_mget hX hML430 36 (v := .ref (ob 74)) (by decide) fl_M_88 rfl rfl d_M_beginNode_440 ?_
            refine v_iload hX d_M_beginNode_443 rfl ?_
            refine v_bipush (v := 45) hX d_M_beginNode_445 (by decide) ?_
            refine v_mist hX hML430 25 C5 T (soLn oL430 (upd (ooLn oL430) j 45)) (i := j) (by decide) ga_lineNow (by omega) (by decide) qf_lineNow qa_lineNow d_M_beginNode_447 (fun va8 hM8 hf8 => ?_)
            refine v_iinc (y := (nI (j + 1))) (lv' := [some (.ref (ob 48)), some (.int (nI i)), some (.int 2), some (.int v3), some (.int ic), none, some (.int (nI (j + 1)))]) hX d_M_beginNode_448 rfl (nI_1 j) rfl ?_
            refine v_goto hX d_M_beginNode_451 (tgt := 430) (by decide) ?_
            exact ih430 (j + 1) C5 (soLn oL430 (upd (ooLn oL430) j 45)) va8 (by omega) hM8 ⟨⟨hOL430.1.1, hOL430.1.2.1, hOL430.1.2.2.1, hOL430.1.2.2.2.1, (by have q9 := hOL430.1.2.2.2.2; first | exact q9 | omega | (show (ooSm oL430) ≤ 4300; omega))⟩, hOL430.2⟩ (hfL430.trans hf8) (by omega) rfl
      exact loop430 _ 0 C5 o5 va5 (Nat.lt_succ_self _) hM5 ⟨hO5.1, (hO5.2.trans hOJ.2)⟩ (hfJ.trans hf5) (Nat.zero_le _) rfl
    · rw [e]
      have qk : bnB T i CJ = lc T i CJ := by simp [bnB, e]
      refine v_iload_n hX d_M_beginNode_182 rfl rfl ?_
      refine v_tableIn hX d_M_beginNode_183 (tgt := 469) (by decide) (by decide) (off := 286) (by decide) (by decide) ?_
      refine v_aload_n hX d_M_beginNode_469 rfl rfl ?_
      refine v_iload_n hX d_M_beginNode_470 rfl rfl ?_
      refine c_V hX 48 (rest := []) hl (c_M_layCode hMJ hOJ.1 (i := i) (by omega) hT ⟨by omega, by omega⟩ w1 ⟨w2, w3⟩ (fun z => by have q1 := hcJ (hOJ.2.symm.trans z); rw [qk] at q1; exact q1)) ml_M_223 im_M_layCode se_M_layCode in_M cd_M_layCode rfl q_M_layCode ⟨(Nat.le_of_ble_eq_true rfl), (Nat.le_of_ble_eq_true rfl)⟩ hMJ.1.1 hMJ.1.2.1 hMJ.1.2.2 rfl rfl rfl rfl (Nat.le_of_ble_eq_true rfl) d_M_beginNode_471 ⟨(Nat.le_of_ble_eq_true rfl), (Nat.le_of_ble_eq_true rfl)⟩ (fun rv d2 lo2 va9 kc ns hp => ?_)
      obtain ⟨rfl, rfl, rfl, rfl, C9, o9, ⟨rfl, hC9⟩, hM9, hO9, hf9⟩ := hp
      show V X D CL A _ _ _ _ _ _ _ []
      refine v_goto hX d_M_beginNode_474 (tgt := 538) (by decide) ?_
      exact v_vret hX hE d_M_beginNode_538 (Nat.le_of_ble_eq_true rfl) (Nat.le_of_ble_eq_true rfl) ⟨rfl, rfl, rfl, rfl, C9, o9, ⟨rfl, hq.symm.trans (qk.trans hC9)⟩, hM9, ⟨hO9.1, (hO9.2.trans hOJ.2)⟩, (hfJ.trans hf9)⟩
    · rw [e]
      have qk : bnB T i CJ = hd 4 (wvF T CJ - 2) (-1) 1 CJ := by simp [bnB, e]
      refine v_iload_n hX d_M_beginNode_182 rfl rfl ?_
      refine v_tableIn hX d_M_beginNode_183 (tgt := 259) (by decide) (by decide) (off := 76) (by decide) (by decide) ?_
      refine v_aload_n hX d_M_beginNode_259 rfl rfl ?_
      refine v_iconst (v := 4) hX d_M_beginNode_260 (by decide) ?_
      refine v_iload_n hX d_M_beginNode_261 rfl rfl ?_
      refine v_iconst (v := 2) hX d_M_beginNode_262 (by decide) ?_
      refine v_isub hX d_M_beginNode_263 ?_
      refine v_iconst (v := (-1)) hX d_M_beginNode_264 (by decide) ?_
      refine v_iconst (v := 1) hX d_M_beginNode_265 (by decide) ?_
      refine c_V hX 48 (rest := []) hl (c_M_hold hMJ hOJ.1 4 (v3 - 2) (-1) 1 (show zHo CJ ≤ 13 by omega)) ml_M_213 im_M_hold se_M_hold in_M cd_M_hold rfl q_M_hold ⟨(Nat.le_of_ble_eq_true rfl), (Nat.le_of_ble_eq_true rfl)⟩ hMJ.1.1 hMJ.1.2.1 hMJ.1.2.2 rfl rfl rfl rfl (Nat.le_of_ble_eq_true rfl) d_M_beginNode_266 ⟨(Nat.le_of_ble_eq_true rfl), (Nat.le_of_ble_eq_true rfl)⟩ (fun rv d2 lo2 va10 kc ns hp => ?_)
      obtain ⟨rfl, rfl, rfl, rfl, C10, o10, ⟨rfl, hC10⟩, hM10, hO10, hf10⟩ := hp
      show V X D CL A _ _ _ _ _ _ _ []
      refine v_goto hX d_M_beginNode_269 (tgt := 538) (by decide) ?_
      exact v_vret hX hE d_M_beginNode_538 (Nat.le_of_ble_eq_true rfl) (Nat.le_of_ble_eq_true rfl) ⟨rfl, rfl, rfl, rfl, C10, o10, ⟨rfl, (by rw [← hq, qk, hv3]; exact hC10)⟩, hM10, ⟨hO10.1, (hO10.2.trans hOJ.2)⟩, (hfJ.trans hf10)⟩
    · rw [e]
      have qk : bnB T i CJ = hd 5 (wvF T CJ) (-1) (hw T i) CJ := by simp [bnB, e]
      refine v_iload_n hX d_M_beginNode_182 rfl rfl ?_
      refine v_tableIn hX d_M_beginNode_183 (tgt := 272) (by decide) (by decide) (off := 89) (by decide) (by decide) ?_
      refine v_aload_n hX d_M_beginNode_272 rfl rfl ?_
      refine v_iconst (v := 5) hX d_M_beginNode_273 (by decide) ?_
      refine v_iload_n hX d_M_beginNode_274 rfl rfl ?_
      refine v_iconst (v := (-1)) hX d_M_beginNode_275 (by decide) ?_
      refine v_aload_n hX d_M_beginNode_276 rfl rfl ?_
      refine v_iload_n hX d_M_beginNode_277 rfl rfl ?_
      refine c_V hX 48 (rest := [.int (-1), .int v3, .int 5, .ref (ob 48)]) hl (c_M_holdsWide hMJ hOJ.1 (i := i) (by omega) (by omega)) ml_M_217 im_M_holdsWideItem se_M_holdsWideItem in_M cd_M_holdsWideItem rfl q_M_holdsWideItem ⟨(Nat.le_of_ble_eq_true rfl), (Nat.le_of_ble_eq_true rfl)⟩ hMJ.1.1 hMJ.1.2.1 hMJ.1.2.2 rfl rfl rfl rfl (Nat.le_of_ble_eq_true rfl) d_M_beginNode_278 ⟨(Nat.le_of_ble_eq_true rfl), (Nat.le_of_ble_eq_true rfl)⟩ (fun rv d2 lo2 va2 kc ns hp => ?_)
      obtain ⟨rfl, rfl, rfl, rfl, rfl, rfl⟩ := hp
      show V X D CL A _ _ _ _ _ _ _ (.int (hw T i) :: [.int (-1), .int v3, .int 5, .ref (ob 48)])
      refine c_V hX 48 (rest := []) hl (c_M_hold hMJ hOJ.1 5 v3 (-1) (hw T i) (show zHo CJ ≤ 13 by omega)) ml_M_213 im_M_hold se_M_hold in_M cd_M_hold rfl q_M_hold ⟨(Nat.le_of_ble_eq_true rfl), (Nat.le_of_ble_eq_true rfl)⟩ hMJ.1.1 hMJ.1.2.1 hMJ.1.2.2 rfl rfl rfl rfl (Nat.le_of_ble_eq_true rfl) d_M_beginNode_281 ⟨(Nat.le_of_ble_eq_true rfl), (Nat.le_of_ble_eq_true rfl)⟩ (fun rv d2 lo2 va11 kc ns hp => ?_)
      obtain ⟨rfl, rfl, rfl, rfl, C11, o11, ⟨rfl, hC11⟩, hM11, hO11, hf11⟩ := hp
      show V X D CL A _ _ _ _ _ _ _ []
      refine v_goto hX d_M_beginNode_284 (tgt := 538) (by decide) ?_
      exact v_vret hX hE d_M_beginNode_538 (Nat.le_of_ble_eq_true rfl) (Nat.le_of_ble_eq_true rfl) ⟨rfl, rfl, rfl, rfl, C11, o11, ⟨rfl, (by rw [← hq, qk, hv3]; exact hC11)⟩, hM11, ⟨hO11.1, (hO11.2.trans hOJ.2)⟩, (hfJ.trans hf11)⟩
    · rw [e]
      have qk : bnB T i CJ = hd 6 (wvF T CJ) (ttNu T i) (hw T i) CJ := by simp [bnB, e]
      refine v_iload_n hX d_M_beginNode_182 rfl rfl ?_
      refine v_tableIn hX d_M_beginNode_183 (tgt := 287) (by decide) (by decide) (off := 104) (by decide) (by decide) ?_
      refine v_aload_n hX d_M_beginNode_287 rfl rfl ?_
      refine v_bipush (v := 6) hX d_M_beginNode_288 (by decide) ?_
      refine v_iload_n hX d_M_beginNode_290 rfl rfl ?_
      refine v_aload_n hX d_M_beginNode_291 rfl rfl ?_
      refine v_mget hX hMJ 3 (v := .ref (ob 51)) (by decide) fl_M_16 rfl rfl d_M_beginNode_292 ?_
      refine v_iload_n hX d_M_beginNode_295 rfl rfl ?_
      refine v_mild hX hMJ 2 (i := i) (v := ((ttNu T) i)) ga_number (by omega) (by decide) rfl d_M_beginNode_296 ?_
      refine v_aload_n hX d_M_beginNode_297 rfl rfl ?_
      refine v_iload_n hX d_M_beginNode_298 rfl rfl ?_
      refine c_V hX 48 (rest := [.int ((ttNu T) i), .int v3, .int 6, .ref (ob 48)]) hl (c_M_holdsWide hMJ hOJ.1 (i := i) (by omega) (by omega)) ml_M_217 im_M_holdsWideItem se_M_holdsWideItem in_M cd_M_holdsWideItem rfl q_M_holdsWideItem ⟨(Nat.le_of_ble_eq_true rfl), (Nat.le_of_ble_eq_true rfl)⟩ hMJ.1.1 hMJ.1.2.1 hMJ.1.2.2 rfl rfl rfl rfl (Nat.le_of_ble_eq_true rfl) d_M_beginNode_299 ⟨(Nat.le_of_ble_eq_true rfl), (Nat.le_of_ble_eq_true rfl)⟩ (fun rv d2 lo2 va2 kc ns hp => ?_)
      obtain ⟨rfl, rfl, rfl, rfl, rfl, rfl⟩ := hp
      show V X D CL A _ _ _ _ _ _ _ (.int (hw T i) :: [.int ((ttNu T) i), .int v3, .int 6, .ref (ob 48)])
      refine c_V hX 48 (rest := []) hl (c_M_hold hMJ hOJ.1 6 v3 ((ttNu T) i) (hw T i) (show zHo CJ ≤ 13 by omega)) ml_M_213 im_M_hold se_M_hold in_M cd_M_hold rfl q_M_hold ⟨(Nat.le_of_ble_eq_true rfl), (Nat.le_of_ble_eq_true rfl)⟩ hMJ.1.1 hMJ.1.2.1 hMJ.1.2.2 rfl rfl rfl rfl (Nat.le_of_ble_eq_true rfl) d_M_beginNode_302 ⟨(Nat.le_of_ble_eq_true rfl), (Nat.le_of_ble_eq_true rfl)⟩ (fun rv d2 lo2 va12 kc ns hp => ?_)
      obtain ⟨rfl, rfl, rfl, rfl, C12, o12, ⟨rfl, hC12⟩, hM12, hO12, hf12⟩ := hp
      show V X D CL A _ _ _ _ _ _ _ []
      refine v_goto hX d_M_beginNode_305 (tgt := 538) (by decide) ?_
      exact v_vret hX hE d_M_beginNode_538 (Nat.le_of_ble_eq_true rfl) (Nat.le_of_ble_eq_true rfl) ⟨rfl, rfl, rfl, rfl, C12, o12, ⟨rfl, (by rw [← hq, qk, hv3]; exact hC12)⟩, hM12, ⟨hO12.1, (hO12.2.trans hOJ.2)⟩, (hfJ.trans hf12)⟩
    · rw [e]
      have qk : bnB T i CJ = itF T i CJ := by simp [bnB, e]
      refine v_iload_n hX d_M_beginNode_182 rfl rfl ?_
      refine v_tableIn hX d_M_beginNode_183 (tgt := 308) (by decide) (by decide) (off := 125) (by decide) (by decide) ?_
      refine v_aload_n hX d_M_beginNode_308 rfl rfl ?_
      refine v_mget hX hMJ 26 (v := .ref (ob 65)) (by decide) fl_M_61 rfl rfl d_M_beginNode_309 ?_
      refine v_aload_n hX d_M_beginNode_312 rfl rfl ?_
      refine v_mget hX hMJ 34 (v := .int (nI (zHo CJ))) (by decide) fl_M_166 rfl gf_holders d_M_beginNode_313 ?_
      refine v_iconst (v := 1) hX d_M_beginNode_316 (by decide) ?_
      refine v_isubE (v := nI ((zHo CJ) - 1)) hX d_M_beginNode_317 (nI_sub (a := (zHo CJ)) (b := 1) (by omega)) ?_
      refine v_mild hX hMJ 16 (i := ((zHo CJ) - 1)) (v := ((zK CJ) ((zHo CJ) - 1))) ga_hKind (by omega) (by decide) rfl d_M_beginNode_318 ?_
      refine v_bipush (v := 6) hX d_M_beginNode_319 (by decide) ?_
      refine v_icmp_ne hX d_M_beginNode_321 (tgt := 338) (by decide) (fun c321 => ?_) (fun c321 => ?_)
      · refine v_iconst (v := (-1)) hX d_M_beginNode_338 (by decide) ?_
        refine v_istore (lv' := [some (.ref (ob 48)), some (.int (nI i)), some (.int 7), some (.int v3), some (.int ic), some (.int (-1)), none]) hX d_M_beginNode_339 (Nat.le_of_ble_eq_true rfl) rfl ?_
        refine v_aload_n hX d_M_beginNode_341 rfl rfl ?_
        refine v_mget hX hMJ 29 (v := .ref (ob 68)) (by decide) fl_M_70 rfl rfl d_M_beginNode_342 ?_
        refine v_aload_n hX d_M_beginNode_345 rfl rfl ?_
        refine v_mget hX hMJ 34 (v := .int (nI (zHo CJ))) (by decide) fl_M_166 rfl gf_holders d_M_beginNode_346 ?_
        refine v_iconst (v := 1) hX d_M_beginNode_349 (by decide) ?_
        refine v_isubE (v := nI ((zHo CJ) - 1)) hX d_M_beginNode_350 (nI_sub (a := (zHo CJ)) (b := 1) (by omega)) ?_
        refine v_dup2 hX d_M_beginNode_351 rfl rfl ?_
        refine v_mild hX hMJ 19 (i := ((zHo CJ) - 1)) (v := ((zX CJ) ((zHo CJ) - 1))) ga_hNext (by omega) (by decide) rfl d_M_beginNode_352 ?_
        refine v_iconst (v := 1) hX d_M_beginNode_353 (by decide) ?_
        refine v_iadd hX d_M_beginNode_354 ?_
        refine v_mist hX hMJ 19 (szX CJ (upd (zX CJ) ((zHo CJ) - 1) (((zX CJ) ((zHo CJ) - 1)) + 1))) T oJ (i := ((zHo CJ) - 1)) (by decide) ga_hNext (by omega) (by decide) qf_hNext qa_hNext d_M_beginNode_355 (fun va13 hM13 hf13 => ?_)
        refine v_aload_n hX d_M_beginNode_356 rfl rfl ?_
        refine v_bipush (v := 7) hX d_M_beginNode_357 (by decide) ?_
        refine v_iload_n hX d_M_beginNode_359 rfl rfl ?_
        refine v_iload hX d_M_beginNode_360 rfl ?_
        refine c_S hX (rest := [.int v3, .int 7, .ref (ob 48)]) hl (c_M_signLength (-1)) ml_M_155 sm_M_signLength in_M cd_M_signLength rfl q_M_signLength ⟨(Nat.le_of_ble_eq_true rfl), (Nat.le_of_ble_eq_true rfl)⟩ rfl rfl rfl (Nat.le_of_ble_eq_true rfl) d_M_beginNode_362 ⟨(Nat.le_of_ble_eq_true rfl), (Nat.le_of_ble_eq_true rfl)⟩ (fun rv d2 lo2 va2 kc ns hp => ?_)
        obtain ⟨rfl, rfl, rfl, rfl, rfl, rfl⟩ := hp
        show V X D CL A _ _ _ _ _ _ _ (.int (nI (sl (-1))) :: [.int v3, .int 7, .ref (ob 48)])
        have hsl14 := sl_le (-1)
        refine v_isub hX d_M_beginNode_365 ?_
        refine v_iload hX d_M_beginNode_366 rfl ?_
        refine v_aload_n hX d_M_beginNode_368 rfl rfl ?_
        refine v_iload_n hX d_M_beginNode_369 rfl rfl ?_
        refine c_V hX 48 (rest := [.int (-1), .int (v3 - (nI (sl (-1)))), .int 7, .ref (ob 48)]) hl (c_M_holdsPar hM13 hOJ.1 (i := i) (by omega) (by omega)) ml_M_201 im_M_holdsParagraph se_M_holdsParagraph in_M cd_M_holdsParagraph rfl q_M_holdsParagraph ⟨(Nat.le_of_ble_eq_true rfl), (Nat.le_of_ble_eq_true rfl)⟩ hM13.1.1 hM13.1.2.1 hM13.1.2.2 rfl rfl rfl rfl (Nat.le_of_ble_eq_true rfl) d_M_beginNode_370 ⟨(Nat.le_of_ble_eq_true rfl), (Nat.le_of_ble_eq_true rfl)⟩ (fun rv d2 lo2 va2 kc ns hp => ?_)
        obtain ⟨rfl, rfl, rfl, rfl, rfl, rfl⟩ := hp
        show V X D CL A _ _ _ _ _ _ _ (.int (hp T i) :: [.int (-1), .int (v3 - (nI (sl (-1)))), .int 7, .ref (ob 48)])
        refine c_V hX 48 (rest := []) hl (c_M_hold hM13 hOJ.1 7 (v3 - (nI (sl (-1)))) (-1) (hp T i) (show zHo CJ ≤ 13 by omega)) ml_M_213 im_M_hold se_M_hold in_M cd_M_hold rfl q_M_hold ⟨(Nat.le_of_ble_eq_true rfl), (Nat.le_of_ble_eq_true rfl)⟩ hM13.1.1 hM13.1.2.1 hM13.1.2.2 rfl rfl rfl rfl (Nat.le_of_ble_eq_true rfl) d_M_beginNode_373 ⟨(Nat.le_of_ble_eq_true rfl), (Nat.le_of_ble_eq_true rfl)⟩ (fun rv d2 lo2 va16 kc ns hp => ?_)
        obtain ⟨rfl, rfl, rfl, rfl, C16, o16, ⟨rfl, hC16⟩, hM16, hO16, hf16⟩ := hp
        show V X D CL A _ _ _ _ _ _ _ []
        refine v_goto hX d_M_beginNode_376 (tgt := 538) (by decide) ?_
        exact v_vret hX hE d_M_beginNode_538 (Nat.le_of_ble_eq_true rfl) (Nat.le_of_ble_eq_true rfl) ⟨rfl, rfl, rfl, rfl, C16, o16, ⟨rfl, (by rw [← hq, qk]; unfold itF sgF; rw [if_neg c321, hv3]; exact hC16)⟩, hM16, ⟨hO16.1, (hO16.2.trans hOJ.2)⟩, ((hfJ.trans hf13).trans hf16)⟩
      · refine v_aload_n hX d_M_beginNode_324 rfl rfl ?_
        refine v_mget hX hMJ 29 (v := .ref (ob 68)) (by decide) fl_M_70 rfl rfl d_M_beginNode_325 ?_
        refine v_aload_n hX d_M_beginNode_328 rfl rfl ?_
        refine v_mget hX hMJ 34 (v := .int (nI (zHo CJ))) (by decide) fl_M_166 rfl gf_holders d_M_beginNode_329 ?_
        refine v_iconst (v := 1) hX d_M_beginNode_332 (by decide) ?_
        refine v_isubE (v := nI ((zHo CJ) - 1)) hX d_M_beginNode_333 (nI_sub (a := (zHo CJ)) (b := 1) (by omega)) ?_
        refine v_mild hX hMJ 19 (i := ((zHo CJ) - 1)) (v := ((zX CJ) ((zHo CJ) - 1))) ga_hNext (by omega) (by decide) rfl d_M_beginNode_334 ?_
        refine v_goto hX d_M_beginNode_335 (tgt := 339) (by decide) ?_
        refine v_istore (lv' := [some (.ref (ob 48)), some (.int (nI i)), some (.int 7), some (.int v3), some (.int ic), some (.int ((zX CJ) ((zHo CJ) - 1))), none]) hX d_M_beginNode_339 (Nat.le_of_ble_eq_true rfl) rfl ?_
        refine v_aload_n hX d_M_beginNode_341 rfl rfl ?_
        refine v_mget hX hMJ 29 (v := .ref (ob 68)) (by decide) fl_M_70 rfl rfl d_M_beginNode_342 ?_
        refine v_aload_n hX d_M_beginNode_345 rfl rfl ?_
        refine v_mget hX hMJ 34 (v := .int (nI (zHo CJ))) (by decide) fl_M_166 rfl gf_holders d_M_beginNode_346 ?_
        refine v_iconst (v := 1) hX d_M_beginNode_349 (by decide) ?_
        refine v_isubE (v := nI ((zHo CJ) - 1)) hX d_M_beginNode_350 (nI_sub (a := (zHo CJ)) (b := 1) (by omega)) ?_
        refine v_dup2 hX d_M_beginNode_351 rfl rfl ?_
        refine v_mild hX hMJ 19 (i := ((zHo CJ) - 1)) (v := ((zX CJ) ((zHo CJ) - 1))) ga_hNext (by omega) (by decide) rfl d_M_beginNode_352 ?_
        refine v_iconst (v := 1) hX d_M_beginNode_353 (by decide) ?_
        refine v_iadd hX d_M_beginNode_354 ?_
        refine v_mist hX hMJ 19 (szX CJ (upd (zX CJ) ((zHo CJ) - 1) (((zX CJ) ((zHo CJ) - 1)) + 1))) T oJ (i := ((zHo CJ) - 1)) (by decide) ga_hNext (by omega) (by decide) qf_hNext qa_hNext d_M_beginNode_355 (fun va17 hM17 hf17 => ?_)
        refine v_aload_n hX d_M_beginNode_356 rfl rfl ?_
        refine v_bipush (v := 7) hX d_M_beginNode_357 (by decide) ?_
        refine v_iload_n hX d_M_beginNode_359 rfl rfl ?_
        refine v_iload hX d_M_beginNode_360 rfl ?_
        refine c_S hX (rest := [.int v3, .int 7, .ref (ob 48)]) hl (c_M_signLength ((zX CJ) ((zHo CJ) - 1))) ml_M_155 sm_M_signLength in_M cd_M_signLength rfl q_M_signLength ⟨(Nat.le_of_ble_eq_true rfl), (Nat.le_of_ble_eq_true rfl)⟩ rfl rfl rfl (Nat.le_of_ble_eq_true rfl) d_M_beginNode_362 ⟨(Nat.le_of_ble_eq_true rfl), (Nat.le_of_ble_eq_true rfl)⟩ (fun rv d2 lo2 va2 kc ns hp => ?_)
        obtain ⟨rfl, rfl, rfl, rfl, rfl, rfl⟩ := hp
        show V X D CL A _ _ _ _ _ _ _ (.int (nI (sl ((zX CJ) ((zHo CJ) - 1)))) :: [.int v3, .int 7, .ref (ob 48)])
        have hsl18 := sl_le ((zX CJ) ((zHo CJ) - 1))
        refine v_isub hX d_M_beginNode_365 ?_
        refine v_iload hX d_M_beginNode_366 rfl ?_
        refine v_aload_n hX d_M_beginNode_368 rfl rfl ?_
        refine v_iload_n hX d_M_beginNode_369 rfl rfl ?_
        refine c_V hX 48 (rest := [.int ((zX CJ) ((zHo CJ) - 1)), .int (v3 - (nI (sl ((zX CJ) ((zHo CJ) - 1))))), .int 7, .ref (ob 48)]) hl (c_M_holdsPar hM17 hOJ.1 (i := i) (by omega) (by omega)) ml_M_201 im_M_holdsParagraph se_M_holdsParagraph in_M cd_M_holdsParagraph rfl q_M_holdsParagraph ⟨(Nat.le_of_ble_eq_true rfl), (Nat.le_of_ble_eq_true rfl)⟩ hM17.1.1 hM17.1.2.1 hM17.1.2.2 rfl rfl rfl rfl (Nat.le_of_ble_eq_true rfl) d_M_beginNode_370 ⟨(Nat.le_of_ble_eq_true rfl), (Nat.le_of_ble_eq_true rfl)⟩ (fun rv d2 lo2 va2 kc ns hp => ?_)
        obtain ⟨rfl, rfl, rfl, rfl, rfl, rfl⟩ := hp
        show V X D CL A _ _ _ _ _ _ _ (.int (hp T i) :: [.int ((zX CJ) ((zHo CJ) - 1)), .int (v3 - (nI (sl ((zX CJ) ((zHo CJ) - 1))))), .int 7, .ref (ob 48)])
        refine c_V hX 48 (rest := []) hl (c_M_hold hM17 hOJ.1 7 (v3 - (nI (sl ((zX CJ) ((zHo CJ) - 1))))) ((zX CJ) ((zHo CJ) - 1)) (hp T i) (show zHo CJ ≤ 13 by omega)) ml_M_213 im_M_hold se_M_hold in_M cd_M_hold rfl q_M_hold ⟨(Nat.le_of_ble_eq_true rfl), (Nat.le_of_ble_eq_true rfl)⟩ hM17.1.1 hM17.1.2.1 hM17.1.2.2 rfl rfl rfl rfl (Nat.le_of_ble_eq_true rfl) d_M_beginNode_373 ⟨(Nat.le_of_ble_eq_true rfl), (Nat.le_of_ble_eq_true rfl)⟩ (fun rv d2 lo2 va20 kc ns hp => ?_)
        obtain ⟨rfl, rfl, rfl, rfl, C20, o20, ⟨rfl, hC20⟩, hM20, hO20, hf20⟩ := hp
        show V X D CL A _ _ _ _ _ _ _ []
        refine v_goto hX d_M_beginNode_376 (tgt := 538) (by decide) ?_
        exact v_vret hX hE d_M_beginNode_538 (Nat.le_of_ble_eq_true rfl) (Nat.le_of_ble_eq_true rfl) ⟨rfl, rfl, rfl, rfl, C20, o20, ⟨rfl, (by rw [← hq, qk]; unfold itF sgF; rw [if_pos c321, hv3]; exact hC20)⟩, hM20, ⟨hO20.1, (hO20.2.trans hOJ.2)⟩, ((hfJ.trans hf17).trans hf20)⟩
    · rw [e]
      have qk : bnB T i CJ = CJ := by simp [bnB, e]
      refine v_iload_n hX d_M_beginNode_182 rfl rfl ?_
      refine v_tableIn hX d_M_beginNode_183 (tgt := 538) (by decide) (by decide) (off := 355) (by decide) (by decide) ?_
      exact v_vret hX hE d_M_beginNode_538 (Nat.le_of_ble_eq_true rfl) (Nat.le_of_ble_eq_true rfl) ⟨rfl, rfl, rfl, rfl, CJ, oJ, ⟨rfl, hq.symm.trans qk⟩, hMJ, ⟨hOJ.1, hOJ.2⟩, hfJ⟩
    · rw [e]
      have qk : bnB T i CJ = gn (ew CJ) := by simp [bnB, e]
      have hpa : ¬ ttK T (pu T i) = 3 := fun z => by rw [z, e] at b6; exact absurd b6 (by decide)
      obtain ⟨g1, g2, g3⟩ := a3 (a6 ⟨by rw [e]; decide, hpa⟩)
      refine v_iload_n hX d_M_beginNode_182 rfl rfl ?_
      refine v_tableIn hX d_M_beginNode_183 (tgt := 477) (by decide) (by decide) (off := 294) (by decide) (by decide) ?_
      refine v_aload_n hX d_M_beginNode_477 rfl rfl ?_
      refine c_V hX 48 (rest := []) hl (c_M_endWord hMJ hOJ.1 (by omega) ⟨by omega, by omega⟩ (by omega) (by omega) (fun z => by have q1 := hcJ (hOJ.2.symm.trans z); rw [qk] at q1; have q2 := (gn_ok (ew CJ)).2.2.2.1; omega)) ml_M_195 im_M_endWord se_M_endWord in_M cd_M_endWord rfl q_M_endWord ⟨(Nat.le_of_ble_eq_true rfl), (Nat.le_of_ble_eq_true rfl)⟩ hMJ.1.1 hMJ.1.2.1 hMJ.1.2.2 rfl rfl rfl rfl (Nat.le_of_ble_eq_true rfl) d_M_beginNode_478 ⟨(Nat.le_of_ble_eq_true rfl), (Nat.le_of_ble_eq_true rfl)⟩ (fun rv d2 lo2 va21 kc ns hp => ?_)
      obtain ⟨rfl, rfl, rfl, rfl, C21, o21, ⟨rfl, hC21⟩, hM21, hO21, hf21⟩ := hp
      show V X D CL A _ _ _ _ _ _ _ []
      have hg21 := ew_ok CJ (by omega) (by omega)
      rw [hC21] at hg21
      obtain ⟨hk21, hw21, hn21, hu21, hv21⟩ := hg21
      obtain ⟨hk21h, hk21l, -⟩ := hk21
      refine v_aload_n hX d_M_beginNode_481 rfl rfl ?_
      refine c_V hX 48 (rest := []) hl (c_M_giveNow hM21 hO21.1 (by omega) (by omega) (fun z => by have q1 := hcJ ((hO21.2.trans hOJ.2).symm.trans z); rw [qk, hC21] at q1; have q3 : zCnt (gn C21) = zCnt (gl C21) := szNm_cnt _ _; omega)) ml_M_192 im_M_giveNow se_M_giveNow in_M cd_M_giveNow rfl q_M_giveNow ⟨(Nat.le_of_ble_eq_true rfl), (Nat.le_of_ble_eq_true rfl)⟩ hM21.1.1 hM21.1.2.1 hM21.1.2.2 rfl rfl rfl rfl (Nat.le_of_ble_eq_true rfl) d_M_beginNode_482 ⟨(Nat.le_of_ble_eq_true rfl), (Nat.le_of_ble_eq_true rfl)⟩ (fun rv d2 lo2 va22 kc ns hp => ?_)
      obtain ⟨rfl, rfl, rfl, rfl, C22, o22, ⟨rfl, hC22⟩, hM22, hO22, hf22⟩ := hp
      show V X D CL A _ _ _ _ _ _ _ []
      have hg22 := gn_ok C21
      rw [hC22] at hg22
      obtain ⟨hk22, hw22, hn22, hu22, hv22⟩ := hg22
      obtain ⟨hk22h, hk22l, -⟩ := hk22
      refine v_goto hX d_M_beginNode_485 (tgt := 538) (by decide) ?_
      exact v_vret hX hE d_M_beginNode_538 (Nat.le_of_ble_eq_true rfl) (Nat.le_of_ble_eq_true rfl) ⟨rfl, rfl, rfl, rfl, C22, o22, ⟨rfl, (by rw [← hq, qk, hC21]; exact hC22)⟩, hM22, ⟨hO22.1, (hO22.2.trans (hO21.2.trans hOJ.2))⟩, ((hfJ.trans hf21).trans hf22)⟩
    · rw [e]
      rcases hic e with ⟨hpa, rfl⟩ | ⟨hpa, rfl⟩
      · have qk : bnB T i CJ = CJ := by simp [bnB, e, hpa]
        refine v_iload_n hX d_M_beginNode_182 rfl rfl ?_
        refine v_tableIn hX d_M_beginNode_183 (tgt := 488) (by decide) (by decide) (off := 305) (by decide) (by decide) ?_
        refine v_iconst (v := 0) hX d_M_beginNode_488 (by decide) ?_
        refine v_istore (lv' := [some (.ref (ob 48)), some (.int (nI i)), some (.int 10), some (.int v3), some (.int 1), none, some (.int 0)]) hX d_M_beginNode_489 (Nat.le_of_ble_eq_true rfl) rfl ?_
        refine v_iload hX d_M_beginNode_491 rfl ?_
        refine v_aload_n hX d_M_beginNode_493 rfl rfl ?_
        refine v_mget hX hMJ 6 (v := .ref (ob 54)) (by decide) fl_M_25 rfl rfl d_M_beginNode_494 ?_
        refine v_iload_n hX d_M_beginNode_497 rfl rfl ?_
        refine v_mild hX hMJ 5 (i := i) (v := (nI ((ttMa T) i))) ga_many (by omega) (by decide) rfl d_M_beginNode_498 ?_
        refine v_icmp_ge hX d_M_beginNode_499 (tgt := 535) (by decide) (fun c499 => ?_) (fun c499 => ?_)
        · have f499 : ((ttMa T) i) ≤ 0 := (nI_leI (a := ((ttMa T) i)) (b := 0) (by omega) (by omega)).mp c499
          refine v_goto hX d_M_beginNode_535 (tgt := 538) (by decide) ?_
          exact v_vret hX hE d_M_beginNode_538 (Nat.le_of_ble_eq_true rfl) (Nat.le_of_ble_eq_true rfl) ⟨rfl, rfl, rfl, rfl, CJ, oJ, ⟨rfl, hq.symm.trans qk⟩, hMJ, ⟨hOJ.1, hOJ.2⟩, hfJ⟩
        · have f499 : ¬ ((ttMa T) i) ≤ 0 := fun z => c499 ((nI_leI (a := ((ttMa T) i)) (b := 0) (by omega) (by omega)).mpr z)
          refine v_iload hX d_M_beginNode_502 rfl ?_
          refine v_if_ne hX d_M_beginNode_504 (tgt := 535) (by decide) (fun _ => ?_) (fun c => absurd c (by decide))
          refine v_goto hX d_M_beginNode_535 (tgt := 538) (by decide) ?_
          exact v_vret hX hE d_M_beginNode_538 (Nat.le_of_ble_eq_true rfl) (Nat.le_of_ble_eq_true rfl) ⟨rfl, rfl, rfl, rfl, CJ, oJ, ⟨rfl, hq.symm.trans qk⟩, hMJ, ⟨hOJ.1, hOJ.2⟩, hfJ⟩
      · have qk : bnB T i CJ = hearL T (ttMa T i) (ttFr T i) CJ := by simp [bnB, e, hpa]
        obtain ⟨g1, g2, g3⟩ := a3 (a6 ⟨by rw [e]; decide, hpa⟩)
        refine v_iload_n hX d_M_beginNode_182 rfl rfl ?_
        refine v_tableIn hX d_M_beginNode_183 (tgt := 488) (by decide) (by decide) (off := 305) (by decide) (by decide) ?_
        refine v_iconst (v := 0) hX d_M_beginNode_488 (by decide) ?_
        refine v_istore (lv' := [some (.ref (ob 48)), some (.int (nI i)), some (.int 10), some (.int v3), some (.int 0), none, some (.int 0)]) hX d_M_beginNode_489 (Nat.le_of_ble_eq_true rfl) rfl ?_
        have loop491 : ∀ (m9 : Nat) (j : Nat) (CL491 : CT) (oL491 : OS) (vaL491 : Nat → va_E), ttMa T i - j < m9 → ModI cI cB cZ ob CL491 T oL491 dom loc vaL491 → (OI oL491 ∧ ooCt oL491 = ooCt O) → frM val vaL491 → (j ≤ ttMa T i) → (hearL T (ttMa T i - j) (ttFr T i + j) CL491 = hearL T (ttMa T i) (ttFr T i) CJ) → (zHo CL491 = zHo CJ ∧ zLw CL491 = zLw CJ ∧ zNm CL491 ≤ zLw CJ ∧ zWm CL491 ≤ sumN (ttMa T) i + j) → V X D CL A dom loc vaL491 0 0 491 [some (.ref (ob 48)), some (.int (nI i)), some (.int 10), some (.int v3), some (.int 0), none, some (.int (nI j))] [] := by
          intro m9
          induction m9 with
          | zero => intro j CL491 oL491 vaL491 hk491 hML491 hOL491 hfL491 hj491 hL491 hc491; exact absurd hk491 (Nat.not_lt_zero _)
          | succ m9 ih491 =>
            intro j CL491 oL491 vaL491 hk491 hML491 hOL491 hfL491 hj491 hL491 hc491
            obtain ⟨hm1, hm2, hm3, hm4⟩ := hc491
            refine v_iload hX d_M_beginNode_491 rfl ?_
            refine v_aload_n hX d_M_beginNode_493 rfl rfl ?_
            refine v_mget hX hML491 6 (v := .ref (ob 54)) (by decide) fl_M_25 rfl rfl d_M_beginNode_494 ?_
            refine v_iload_n hX d_M_beginNode_497 rfl rfl ?_
            refine v_mild hX hML491 5 (i := i) (v := (nI ((ttMa T) i))) ga_many (by omega) (by decide) rfl d_M_beginNode_498 ?_
            refine v_icmp_ge hX d_M_beginNode_499 (tgt := 535) (by decide) (fun c499 => ?_) (fun c499 => ?_)
            · have f499 : ((ttMa T) i) ≤ j := (nI_leI (a := ((ttMa T) i)) (b := j) (by omega) (by omega)).mp c499
              refine v_goto hX d_M_beginNode_535 (tgt := 538) (by decide) ?_
              exact v_vret hX hE d_M_beginNode_538 (Nat.le_of_ble_eq_true rfl) (Nat.le_of_ble_eq_true rfl) ⟨rfl, rfl, rfl, rfl, CL491, oL491, ⟨rfl, (by rw [← hq, qk, ← hL491, show ttMa T i - j = 0 by omega]; rfl)⟩, hML491, ⟨hOL491.1, hOL491.2⟩, hfL491⟩
            · have f499 : ¬ ((ttMa T) i) ≤ j := fun z => c499 ((nI_leI (a := ((ttMa T) i)) (b := j) (by omega) (by omega)).mpr z)
              refine v_iload hX d_M_beginNode_502 rfl ?_
              refine v_if_ne hX d_M_beginNode_504 (tgt := 535) (by decide) (fun c => absurd (by decide) c) (fun _ => ?_)
              refine v_aload_n hX d_M_beginNode_507 rfl rfl ?_
              refine v_aload_n hX d_M_beginNode_508 rfl rfl ?_
              refine v_mget hX hML491 8 (v := .ref (ob 56)) (by decide) fl_M_31 rfl rfl d_M_beginNode_509 ?_
              refine v_aload_n hX d_M_beginNode_512 rfl rfl ?_
              refine v_mget hX hML491 5 (v := .ref (ob 53)) (by decide) fl_M_22 rfl rfl d_M_beginNode_513 ?_
              refine v_iload_n hX d_M_beginNode_516 rfl rfl ?_
              refine v_mild hX hML491 4 (i := i) (v := (nI ((ttFr T) i))) ga_from (by omega) (by decide) rfl d_M_beginNode_517 ?_
              refine v_iload hX d_M_beginNode_518 rfl ?_
              refine v_iaddE (v := nI (((ttFr T) i) + j)) hX d_M_beginNode_520 (nI_add ((ttFr T) i) j) ?_
              refine v_mbld hX hML491 7 (i := (((ttFr T) i) + j)) (v := ((ttTe T) (((ttFr T) i) + j))) ga_text (by omega) (by decide) rfl d_M_beginNode_521 ?_
              refine v_sipush (v := 255) hX d_M_beginNode_522 (by decide) ?_
              refine v_iand hX d_M_beginNode_525 ?_
              refine c_V hX 48 (rest := []) hl (c_M_hear hML491 hOL491.1 (((ttTe T) (((ttFr T) i) + j)) &&& 255) (by omega) ⟨by omega, by omega⟩ (by omega) (by omega) (fun z => by have q1 := hcJ (hOL491.2.symm.trans z); have q2 := hearL_mono T (ttMa T i - (j + 1)) (ttFr T i + (j + 1)) (hearF (ttTe T (ttFr T i + j) &&& 255) CL491); rw [hearL_1 hL491 (by omega)] at q2; rw [qk] at q1; omega)) ml_M_220 im_M_hear se_M_hear in_M cd_M_hear rfl q_M_hear ⟨(Nat.le_of_ble_eq_true rfl), (Nat.le_of_ble_eq_true rfl)⟩ hML491.1.1 hML491.1.2.1 hML491.1.2.2 rfl rfl rfl rfl (Nat.le_of_ble_eq_true rfl) d_M_beginNode_526 ⟨(Nat.le_of_ble_eq_true rfl), (Nat.le_of_ble_eq_true rfl)⟩ (fun rv d2 lo2 va23 kc ns hp => ?_)
              obtain ⟨rfl, rfl, rfl, rfl, C23, o23, ⟨rfl, hC23⟩, hM23, hO23, hf23⟩ := hp
              show V X D CL A _ _ _ _ _ _ _ []
              have hg23 := hearF_ok (((ttTe T) (((ttFr T) i) + j)) &&& 255) CL491 (by omega) (by omega) (by omega) (by omega)
              rw [hC23] at hg23
              obtain ⟨hk23, hn23, hw23, hu23, hv23, -⟩ := hg23
              obtain ⟨hk23h, hk23l, -⟩ := hk23
              refine v_iinc (y := (nI (j + 1))) (lv' := [some (.ref (ob 48)), some (.int (nI i)), some (.int 10), some (.int v3), some (.int 0), none, some (.int (nI (j + 1)))]) hX d_M_beginNode_529 rfl (nI_1 j) rfl ?_
              refine v_goto hX d_M_beginNode_532 (tgt := 491) (by decide) ?_
              exact ih491 (j + 1) C23 o23 va23 (by omega) hM23 ⟨hO23.1, (hO23.2.trans hOL491.2)⟩ (hfL491.trans hf23) (by omega) (by rw [← hC23]; exact hearL_1 hL491 (by omega)) ⟨by omega, by omega, by omega, by omega⟩
        exact loop491 _ 0 CJ oJ vaJ (Nat.lt_succ_self _) hMJ ⟨hOJ.1, hOJ.2⟩ hfJ (Nat.zero_le _) rfl ⟨rfl, rfl, g3, by omega⟩
  have j136 : ∀ (v3 ic : Int32) (CJ : CT) (oJ : OS) (vaJ : Nat → va_E), ModI cI cB cZ ob CJ T oJ dom loc vaJ → (OI oJ ∧ ooCt oJ = ooCt O) → frM val vaJ → (SA T i CJ) → (bnB T i CJ = bn T i C) → (zCnt CJ < 40000000) → (ttK T i = 10 → (ttK T (pu T i) = 3 ∧ ic = 1) ∨ (¬ ttK T (pu T i) = 3 ∧ ic = 0)) → (wvF T CJ = v3) → V X D CL A dom loc vaJ 0 0 136 [some (.ref (ob 48)), some (.int (nI i)), some (.int (ttK T i)), some (.int v3), some (.int ic), none, none] [] := by
    intro v3 ic CJ oJ vaJ hMJ hOJ hfJ hA hq hcb hic hv3
    refine v_aload_n hX d_M_beginNode_136 rfl rfl ?_
    refine v_mget hX hMJ 25 (v := .ref (ob 64)) (by decide) fl_M_58 rfl rfl d_M_beginNode_137 ?_
    refine v_iload_n hX d_M_beginNode_140 rfl rfl ?_
    refine v_iload_n hX d_M_beginNode_141 rfl rfl ?_
    refine c_S hX (rest := [.int (nI i), .ref (ob 64)]) hl (c_M_isInline (ttK T i)) ml_M_129 sm_M_isInline in_M cd_M_isInline rfl q_M_isInline ⟨(Nat.le_of_ble_eq_true rfl), (Nat.le_of_ble_eq_true rfl)⟩ rfl rfl rfl (Nat.le_of_ble_eq_true rfl) d_M_beginNode_142 ⟨(Nat.le_of_ble_eq_true rfl), (Nat.le_of_ble_eq_true rfl)⟩ (fun rv d2 lo2 va2 kc ns hp => ?_)
    obtain ⟨rfl, rfl, rfl, rfl, rfl, rfl⟩ := hp
    show V X D CL A _ _ _ _ _ _ _ (.int (isL (ttK T i)) :: [.int (nI i), .ref (ob 64)])
    refine v_if_eq hX d_M_beginNode_145 (tgt := 174) (by decide) (fun c145 => ?_) (fun c145 => ?_)
    · refine v_bipush (v := (-2)) hX d_M_beginNode_174 (by decide) ?_
      refine v_aload_n hX d_M_beginNode_176 rfl rfl ?_
      refine v_mget hX hMJ 23 (v := .int (nI (zCnt CJ))) (by decide) fl_M_159 rfl gf_counted d_M_beginNode_177 ?_
      refine v_isub hX d_M_beginNode_180 ?_
      refine v_mist hX hMJ 15 CJ T (soSt oJ (upd (ooSt oJ) i ((-2) - (nI (zCnt CJ))))) (i := i) (by decide) ga_start (by omega) (by decide) qf_start qa_start d_M_beginNode_181 (fun va24 hM24 hf24 => ?_)
      exact j182 v3 ic CJ (soSt oJ (upd (ooSt oJ) i ((-2) - (nI (zCnt CJ))))) va24 hM24 ⟨⟨(OI_st hOJ.1.1 (Or.inr (by rw [st_ok (by omega)]; omega))), hOJ.1.2.1, hOJ.1.2.2.1, hOJ.1.2.2.2.1, (by have q9 := hOJ.1.2.2.2.2; first | exact q9 | omega | (show (ooSm oJ) ≤ 4300; omega))⟩, hOJ.2⟩ (hfJ.trans hf24) hA hq hcb hic hv3
    · refine v_aload_n hX d_M_beginNode_148 rfl rfl ?_
      refine v_mget hX hMJ 42 (v := .int (zLl CJ)) (by decide) fl_M_176 rfl gf_leafLine d_M_beginNode_149 ?_
      refine v_if_lt hX d_M_beginNode_152 (tgt := 174) (by decide) (fun c152 => ?_) (fun c152 => ?_)
      · refine v_bipush (v := (-2)) hX d_M_beginNode_174 (by decide) ?_
        refine v_aload_n hX d_M_beginNode_176 rfl rfl ?_
        refine v_mget hX hMJ 23 (v := .int (nI (zCnt CJ))) (by decide) fl_M_159 rfl gf_counted d_M_beginNode_177 ?_
        refine v_isub hX d_M_beginNode_180 ?_
        refine v_mist hX hMJ 15 CJ T (soSt oJ (upd (ooSt oJ) i ((-2) - (nI (zCnt CJ))))) (i := i) (by decide) ga_start (by omega) (by decide) qf_start qa_start d_M_beginNode_181 (fun va25 hM25 hf25 => ?_)
        exact j182 v3 ic CJ (soSt oJ (upd (ooSt oJ) i ((-2) - (nI (zCnt CJ))))) va25 hM25 ⟨⟨(OI_st hOJ.1.1 (Or.inr (by rw [st_ok (by omega)]; omega))), hOJ.1.2.1, hOJ.1.2.2.1, hOJ.1.2.2.2.1, (by have q9 := hOJ.1.2.2.2.2; first | exact q9 | omega | (show (ooSm oJ) ≤ 4300; omega))⟩, hOJ.2⟩ (hfJ.trans hf25) hA hq hcb hic hv3
      · refine v_aload_n hX d_M_beginNode_155 rfl rfl ?_
        refine v_mget hX hMJ 43 (v := .int (zLo CJ)) (by decide) fl_M_198 rfl gf_leafOpen d_M_beginNode_156 ?_
        refine v_if_ne hX d_M_beginNode_159 (tgt := 167) (by decide) (fun c159 => ?_) (fun c159 => ?_)
        · refine v_aload_n hX d_M_beginNode_167 rfl rfl ?_
          refine v_mget hX hMJ 42 (v := .int (zLl CJ)) (by decide) fl_M_176 rfl gf_leafLine d_M_beginNode_168 ?_
          refine v_goto hX d_M_beginNode_171 (tgt := 181) (by decide) ?_
          refine v_mist hX hMJ 15 CJ T (soSt oJ (upd (ooSt oJ) i (zLl CJ))) (i := i) (by decide) ga_start (by omega) (by decide) qf_start qa_start d_M_beginNode_181 (fun va26 hM26 hf26 => ?_)
          exact j182 v3 ic CJ (soSt oJ (upd (ooSt oJ) i (zLl CJ))) va26 hM26 ⟨⟨(OI_st hOJ.1.1 (Or.inl (Int32.le_iff_toInt_le.mp (Int32.not_lt.mp c152)))), hOJ.1.2.1, hOJ.1.2.2.1, hOJ.1.2.2.2.1, (by have q9 := hOJ.1.2.2.2.2; first | exact q9 | omega | (show (ooSm oJ) ≤ 4300; omega))⟩, hOJ.2⟩ (hfJ.trans hf26) hA hq hcb hic hv3
        · refine v_iload hX d_M_beginNode_162 rfl ?_
          refine v_if_eq hX d_M_beginNode_164 (tgt := 174) (by decide) (fun c164 => ?_) (fun c164 => ?_)
          · refine v_bipush (v := (-2)) hX d_M_beginNode_174 (by decide) ?_
            refine v_aload_n hX d_M_beginNode_176 rfl rfl ?_
            refine v_mget hX hMJ 23 (v := .int (nI (zCnt CJ))) (by decide) fl_M_159 rfl gf_counted d_M_beginNode_177 ?_
            refine v_isub hX d_M_beginNode_180 ?_
            refine v_mist hX hMJ 15 CJ T (soSt oJ (upd (ooSt oJ) i ((-2) - (nI (zCnt CJ))))) (i := i) (by decide) ga_start (by omega) (by decide) qf_start qa_start d_M_beginNode_181 (fun va27 hM27 hf27 => ?_)
            exact j182 v3 ic CJ (soSt oJ (upd (ooSt oJ) i ((-2) - (nI (zCnt CJ))))) va27 hM27 ⟨⟨(OI_st hOJ.1.1 (Or.inr (by rw [st_ok (by omega)]; omega))), hOJ.1.2.1, hOJ.1.2.2.1, hOJ.1.2.2.2.1, (by have q9 := hOJ.1.2.2.2.2; first | exact q9 | omega | (show (ooSm oJ) ≤ 4300; omega))⟩, hOJ.2⟩ (hfJ.trans hf27) hA hq hcb hic hv3
          · refine v_aload_n hX d_M_beginNode_167 rfl rfl ?_
            refine v_mget hX hMJ 42 (v := .int (zLl CJ)) (by decide) fl_M_176 rfl gf_leafLine d_M_beginNode_168 ?_
            refine v_goto hX d_M_beginNode_171 (tgt := 181) (by decide) ?_
            refine v_mist hX hMJ 15 CJ T (soSt oJ (upd (ooSt oJ) i (zLl CJ))) (i := i) (by decide) ga_start (by omega) (by decide) qf_start qa_start d_M_beginNode_181 (fun va28 hM28 hf28 => ?_)
            exact j182 v3 ic CJ (soSt oJ (upd (ooSt oJ) i (zLl CJ))) va28 hM28 ⟨⟨(OI_st hOJ.1.1 (Or.inl (Int32.le_iff_toInt_le.mp (Int32.not_lt.mp c152)))), hOJ.1.2.1, hOJ.1.2.2.1, hOJ.1.2.2.2.1, (by have q9 := hOJ.1.2.2.2.2; first | exact q9 | omega | (show (ooSm oJ) ≤ 4300; omega))⟩, hOJ.2⟩ (hfJ.trans hf28) hA hq hcb hic hv3
  have j82 : ∀  (CJ : CT) (oJ : OS) (vaJ : Nat → va_E), ModI cI cB cZ ob CJ T oJ dom loc vaJ → (OI oJ ∧ ooCt oJ = ooCt O) → frM val vaJ → (SA T i CJ) → (bnB T i CJ = bn T i C) → (zCnt CJ < 40000000) → V X D CL A dom loc vaJ 0 0 82 [some (.ref (ob 48)), some (.int (nI i)), some (.int (ttK T i)), none, none, none, none] [] := by
    intro  CJ oJ vaJ hMJ hOJ hfJ hA hq hcb
    have h1 : 1 ≤ zHo CJ := by have := hA.1; omega
    have h13 : zHo CJ ≤ 13 := by have := hA.1; omega
    refine v_aload_n hX d_M_beginNode_82 rfl rfl ?_
    refine v_mget hX hMJ 34 (v := .int (nI (zHo CJ))) (by decide) fl_M_166 rfl gf_holders d_M_beginNode_83 ?_
    refine v_if_le hX d_M_beginNode_86 (tgt := 103) (by decide) (fun c => absurd c (nI_nle (by omega) (by omega))) (fun _ => ?_)
    refine v_aload_n hX d_M_beginNode_89 rfl rfl ?_
    refine v_mget hX hMJ 27 (v := .ref (ob 66)) (by decide) fl_M_64 rfl rfl d_M_beginNode_90 ?_
    refine v_aload_n hX d_M_beginNode_93 rfl rfl ?_
    refine v_mget hX hMJ 34 (v := .int (nI (zHo CJ))) (by decide) fl_M_166 rfl gf_holders d_M_beginNode_94 ?_
    refine v_iconst (v := 1) hX d_M_beginNode_97 (by decide) ?_
    refine v_isubE (v := nI ((zHo CJ) - 1)) hX d_M_beginNode_98 (nI_sub (a := (zHo CJ)) (b := 1) (by omega)) ?_
    refine v_mild hX hMJ 17 (i := ((zHo CJ) - 1)) (v := ((zW CJ) ((zHo CJ) - 1))) ga_hWidth (by omega) (by decide) rfl d_M_beginNode_99 ?_
    refine v_goto hX d_M_beginNode_100 (tgt := 107) (by decide) ?_
    refine v_istore_n (lv' := [some (.ref (ob 48)), some (.int (nI i)), some (.int (ttK T i)), some (.int ((zW CJ) ((zHo CJ) - 1))), none, none, none]) hX d_M_beginNode_107 rfl (Nat.le_of_ble_eq_true rfl) rfl ?_
    refine v_iload_n hX d_M_beginNode_108 rfl rfl ?_
    refine v_bipush (v := 10) hX d_M_beginNode_109 (by decide) ?_
    refine v_icmp_ne hX d_M_beginNode_111 (tgt := 133) (by decide) (fun c111 => ?_) (fun c111 => ?_)
    · refine v_iconst (v := 0) hX d_M_beginNode_133 (by decide) ?_
      refine v_istore (lv' := [some (.ref (ob 48)), some (.int (nI i)), some (.int (ttK T i)), some (.int ((zW CJ) ((zHo CJ) - 1))), some (.int 0), none, none]) hX d_M_beginNode_134 (Nat.le_of_ble_eq_true rfl) rfl ?_
      exact j136 ((zW CJ) ((zHo CJ) - 1)) 0 CJ oJ vaJ hMJ ⟨hOJ.1, hOJ.2⟩ hfJ hA hq hcb (fun z => absurd z c111) (if_pos (by omega))
    · refine v_aload_n hX d_M_beginNode_114 rfl rfl ?_
      refine v_mget hX hMJ 1 (v := .ref (ob 49)) (by decide) fl_M_7 rfl rfl d_M_beginNode_115 ?_
      refine v_aload_n hX d_M_beginNode_118 rfl rfl ?_
      refine v_mget hX hMJ 2 (v := .ref (ob 50)) (by decide) fl_M_13 rfl rfl d_M_beginNode_119 ?_
      refine v_iload_n hX d_M_beginNode_122 rfl rfl ?_
      refine v_mild hX hMJ 1 (i := i) (v := (nI (pu T i))) ga_up (by omega) (by decide) b2 d_M_beginNode_123 ?_
      refine v_mild hX hMJ 0 (i := (pu T i)) (v := ((ttK T) (pu T i))) ga_kind (by omega) (by decide) rfl d_M_beginNode_124 ?_
      refine v_iconst (v := 3) hX d_M_beginNode_125 (by decide) ?_
      refine v_icmp_ne hX d_M_beginNode_126 (tgt := 133) (by decide) (fun c126 => ?_) (fun c126 => ?_)
      · refine v_iconst (v := 0) hX d_M_beginNode_133 (by decide) ?_
        refine v_istore (lv' := [some (.ref (ob 48)), some (.int (nI i)), some (.int (ttK T i)), some (.int ((zW CJ) ((zHo CJ) - 1))), some (.int 0), none, none]) hX d_M_beginNode_134 (Nat.le_of_ble_eq_true rfl) rfl ?_
        exact j136 ((zW CJ) ((zHo CJ) - 1)) 0 CJ oJ vaJ hMJ ⟨hOJ.1, hOJ.2⟩ hfJ hA hq hcb (fun _ => Or.inr ⟨c126, rfl⟩) (if_pos (by omega))
      · refine v_iconst (v := 1) hX d_M_beginNode_129 (by decide) ?_
        refine v_goto hX d_M_beginNode_130 (tgt := 134) (by decide) ?_
        refine v_istore (lv' := [some (.ref (ob 48)), some (.int (nI i)), some (.int (ttK T i)), some (.int ((zW CJ) ((zHo CJ) - 1))), some (.int 1), none, none]) hX d_M_beginNode_134 (Nat.le_of_ble_eq_true rfl) rfl ?_
        exact j136 ((zW CJ) ((zHo CJ) - 1)) 1 CJ oJ vaJ hMJ ⟨hOJ.1, hOJ.2⟩ hfJ hA hq hcb (fun _ => Or.inl ⟨c126, rfl⟩) (if_pos (by omega))
  have j25 : ∀  (CJ : CT) (oJ : OS) (vaJ : Nat → va_E), ModI cI cB cZ ob CJ T oJ dom loc vaJ → (OI oJ ∧ ooCt oJ = ooCt O) → frM val vaJ → (SI T (pu T i) CJ ∨ (zHo CJ = ttHc T (pu T i) ∧ WI CJ ∧ LI CJ ∧ KI T (pu T i) CJ ∧ LLI CJ ∧ isB (ttK T i) ≠ 0)) → (zWm CJ ≤ sumN (ttMa T) i) → (bnB T i (bnA2 T i CJ) = bn T i C) → (zCnt CJ < 40000000) → V X D CL A dom loc vaJ 0 0 25 [some (.ref (ob 48)), some (.int (nI i)), some (.int (ttK T i)), none, none, none, none] [] := by
    intro  CJ oJ vaJ hMJ hOJ hfJ hB hwJ hq hcb
    have hA2 := A2_ok hT ⟨hi0, hi1⟩ hB hwJ
    have hcn2 := (A2_cnt T i CJ).1
    have hhJ : zHo CJ = ttHc T (pu T i) ∧ WI CJ := by rcases hB with h | h; exact ⟨h.1, h.2.1⟩; exact ⟨h.1, h.2.1⟩
    obtain ⟨hhJ1, hhJ2⟩ := hhJ
    have w1 := (WI_wdt hhJ2 (by omega)).1
    refine v_iload_n hX d_M_beginNode_25 rfl rfl ?_
    refine c_S hX (rest := []) hl (c_M_isInline (ttK T i)) ml_M_129 sm_M_isInline in_M cd_M_isInline rfl q_M_isInline ⟨(Nat.le_of_ble_eq_true rfl), (Nat.le_of_ble_eq_true rfl)⟩ rfl rfl rfl (Nat.le_of_ble_eq_true rfl) d_M_beginNode_26 ⟨(Nat.le_of_ble_eq_true rfl), (Nat.le_of_ble_eq_true rfl)⟩ (fun rv d2 lo2 va2 kc ns hp => ?_)
    obtain ⟨rfl, rfl, rfl, rfl, rfl, rfl⟩ := hp
    show V X D CL A _ _ _ _ _ _ _ (.int (isL (ttK T i)) :: [])
    refine v_if_eq hX d_M_beginNode_29 (tgt := 82) (by decide) (fun c29 => ?_) (fun c29 => ?_)
    · have eA : bnA2 T i CJ = CJ := by unfold bnA2; rw [if_pos c29]
      rw [eA] at hA2 hq hcn2
      exact j82  CJ oJ vaJ hMJ ⟨hOJ.1, hOJ.2⟩ hfJ hA2 hq (by omega)
    · refine v_aload_n hX d_M_beginNode_32 rfl rfl ?_
      refine v_mget hX hMJ 43 (v := .int (zLo CJ)) (by decide) fl_M_198 rfl gf_leafOpen d_M_beginNode_33 ?_
      refine v_if_ne hX d_M_beginNode_36 (tgt := 82) (by decide) (fun c36 => ?_) (fun c36 => ?_)
      · have eA : bnA2 T i CJ = CJ := by unfold bnA2; rw [if_neg c29, if_neg c36]
        rw [eA] at hA2 hq hcn2
        exact j82  CJ oJ vaJ hMJ ⟨hOJ.1, hOJ.2⟩ hfJ hA2 hq (by omega)
      · refine v_aload_n hX d_M_beginNode_39 rfl rfl ?_
        refine v_mget hX hMJ 34 (v := .int (nI (zHo CJ))) (by decide) fl_M_166 rfl gf_holders d_M_beginNode_40 ?_
        refine v_if_le hX d_M_beginNode_43 (tgt := 82) (by decide) (fun c => absurd c (nI_nle (by omega) (by omega))) (fun _ => ?_)
        refine v_aload_n hX d_M_beginNode_46 rfl rfl ?_
        refine v_mget hX hMJ 26 (v := .ref (ob 65)) (by decide) fl_M_61 rfl rfl d_M_beginNode_47 ?_
        refine v_aload_n hX d_M_beginNode_50 rfl rfl ?_
        refine v_mget hX hMJ 34 (v := .int (nI (zHo CJ))) (by decide) fl_M_166 rfl gf_holders d_M_beginNode_51 ?_
        refine v_iconst (v := 1) hX d_M_beginNode_54 (by decide) ?_
        refine v_isubE (v := nI ((zHo CJ) - 1)) hX d_M_beginNode_55 (nI_sub (a := (zHo CJ)) (b := 1) (by omega)) ?_
        refine v_mild hX hMJ 16 (i := ((zHo CJ) - 1)) (v := ((zK CJ) ((zHo CJ) - 1))) ga_hKind (by omega) (by decide) rfl d_M_beginNode_56 ?_
        refine v_bipush (v := 7) hX d_M_beginNode_57 (by decide) ?_
        refine v_icmp_ne hX d_M_beginNode_59 (tgt := 82) (by decide) (fun c59 => ?_) (fun c59 => ?_)
        · have eA : bnA2 T i CJ = CJ := by unfold bnA2; rw [if_neg c29, if_pos c36, if_pos (show 0 < zHo CJ by omega), if_neg c59]
          rw [eA] at hA2 hq hcn2
          exact j82  CJ oJ vaJ hMJ ⟨hOJ.1, hOJ.2⟩ hfJ hA2 hq (by omega)
        · refine v_aload_n hX d_M_beginNode_62 rfl rfl ?_
          refine v_mget hX hMJ 1 (v := .ref (ob 49)) (by decide) fl_M_7 rfl rfl d_M_beginNode_63 ?_
          refine v_aload_n hX d_M_beginNode_66 rfl rfl ?_
          refine v_mget hX hMJ 2 (v := .ref (ob 50)) (by decide) fl_M_13 rfl rfl d_M_beginNode_67 ?_
          refine v_iload_n hX d_M_beginNode_70 rfl rfl ?_
          refine v_mild hX hMJ 1 (i := i) (v := (nI (pu T i))) ga_up (by omega) (by decide) b2 d_M_beginNode_71 ?_
          refine v_mild hX hMJ 0 (i := (pu T i)) (v := ((ttK T) (pu T i))) ga_kind (by omega) (by decide) rfl d_M_beginNode_72 ?_
          refine v_bipush (v := 7) hX d_M_beginNode_73 (by decide) ?_
          refine v_icmp_ne hX d_M_beginNode_75 (tgt := 82) (by decide) (fun c75 => ?_) (fun c75 => ?_)
          · have eA : bnA2 T i CJ = CJ := by unfold bnA2; rw [if_neg c29, if_pos c36, if_pos (show 0 < zHo CJ by omega), if_pos c59, if_neg c75]
            rw [eA] at hA2 hq hcn2
            exact j82  CJ oJ vaJ hMJ ⟨hOJ.1, hOJ.2⟩ hfJ hA2 hq (by omega)
          · refine v_aload_n hX d_M_beginNode_78 rfl rfl ?_
            refine c_V hX 48 (rest := []) hl (c_M_beginLeaf hMJ hOJ.1 ⟨by omega, by omega⟩ w1) ml_M_204 im_M_beginLeaf se_M_beginLeaf in_M cd_M_beginLeaf rfl q_M_beginLeaf ⟨(Nat.le_of_ble_eq_true rfl), (Nat.le_of_ble_eq_true rfl)⟩ hMJ.1.1 hMJ.1.2.1 hMJ.1.2.2 rfl rfl rfl rfl (Nat.le_of_ble_eq_true rfl) d_M_beginNode_79 ⟨(Nat.le_of_ble_eq_true rfl), (Nat.le_of_ble_eq_true rfl)⟩ (fun rv d2 lo2 va29 kc ns hp => ?_)
            obtain ⟨rfl, rfl, rfl, rfl, C29, o29, ⟨rfl, hC29⟩, hM29, hO29, hf29⟩ := hp
            show V X D CL A _ _ _ _ _ _ _ []
            have hg29 := bl_ok CJ
            rw [hC29] at hg29
            obtain ⟨hk29h, hk29l, hw29, hn29, hu29, hz29, hy29, hx29⟩ := hg29
            have eA : bnA2 T i CJ = C29 := by unfold bnA2; rw [if_neg c29, if_pos c36, if_pos (show 0 < zHo CJ by omega), if_pos c59, if_pos c75, hC29]
            rw [eA] at hA2 hq hcn2
            exact j82  C29 o29 va29 hM29 ⟨hO29.1, (hO29.2.trans hOJ.2)⟩ (hfJ.trans hf29) hA2 hq (by omega)
  refine v_aload_n hX d_M_beginNode_0 rfl rfl ?_
  refine v_mget hX hM 1 (v := .ref (ob 49)) (by decide) fl_M_7 rfl rfl d_M_beginNode_1 ?_
  refine v_iload_n hX d_M_beginNode_4 rfl rfl ?_
  refine v_mild hX hM 0 (i := i) (v := ((ttK T) i)) ga_kind (by omega) (by decide) rfl d_M_beginNode_5 ?_
  refine v_istore_n (lv' := [some (.ref (ob 48)), some (.int (nI i)), some (.int ((ttK T) i)), none, none, none, none]) hX d_M_beginNode_6 rfl (Nat.le_of_ble_eq_true rfl) rfl ?_
  refine v_iload_n hX d_M_beginNode_7 rfl rfl ?_
  refine c_S hX (rest := []) hl (c_M_isBlock ((ttK T) i)) ml_M_125 sm_M_isBlock in_M cd_M_isBlock rfl q_M_isBlock ⟨(Nat.le_of_ble_eq_true rfl), (Nat.le_of_ble_eq_true rfl)⟩ rfl rfl rfl (Nat.le_of_ble_eq_true rfl) d_M_beginNode_8 ⟨(Nat.le_of_ble_eq_true rfl), (Nat.le_of_ble_eq_true rfl)⟩ (fun rv d2 lo2 va2 kc ns hp => ?_)
  obtain ⟨rfl, rfl, rfl, rfl, rfl, rfl⟩ := hp
  show V X D CL A _ _ _ _ _ _ _ (.int (isB ((ttK T) i)) :: [])
  refine v_if_eq hX d_M_beginNode_11 (tgt := 25) (by decide) (fun c11 => ?_) (fun c11 => ?_)
  · have eA : bnA1 T i C = C := by unfold bnA1; rw [if_pos c11]
    rw [eA] at hA0 hA1c hq0
    exact j25  C O val hM ⟨hO, rfl⟩ frM.rf hA0 hA1c.2.2 hq0 (by omega)
  · refine v_aload_n hX d_M_beginNode_14 rfl rfl ?_
    refine v_mget hX hM 43 (v := .int (zLo C)) (by decide) fl_M_198 rfl gf_leafOpen d_M_beginNode_15 ?_
    refine v_if_eq hX d_M_beginNode_18 (tgt := 25) (by decide) (fun c18 => ?_) (fun c18 => ?_)
    · have eA : bnA1 T i C = C := by unfold bnA1; rw [if_neg c11, if_pos c18]
      rw [eA] at hA0 hA1c hq0
      exact j25  C O val hM ⟨hO, rfl⟩ frM.rf hA0 hA1c.2.2 hq0 (by omega)
    · obtain ⟨g1, g2, g3⟩ := hS3 c18
      refine v_aload_n hX d_M_beginNode_21 rfl rfl ?_
      refine c_V hX 48 (rest := []) hl (c_M_endLeaf hM hO (by omega) ⟨by omega, by omega⟩ (by omega) (by omega) (fun z => by have q1 := hc (rfl.symm.trans z); have q2 : bnA1 T i C = el C := (by unfold bnA1; rw [if_neg c11, if_neg c18]); rw [q2] at hcn; omega)) ml_M_210 im_M_endLeaf se_M_endLeaf in_M cd_M_endLeaf rfl q_M_endLeaf ⟨(Nat.le_of_ble_eq_true rfl), (Nat.le_of_ble_eq_true rfl)⟩ hM.1.1 hM.1.2.1 hM.1.2.2 rfl rfl rfl rfl (Nat.le_of_ble_eq_true rfl) d_M_beginNode_22 ⟨(Nat.le_of_ble_eq_true rfl), (Nat.le_of_ble_eq_true rfl)⟩ (fun rv d2 lo2 va30 kc ns hp => ?_)
      obtain ⟨rfl, rfl, rfl, rfl, C30, o30, ⟨rfl, hC30⟩, hM30, hO30, hf30⟩ := hp
      show V X D CL A _ _ _ _ _ _ _ []
      have eA : bnA1 T i C = C30 := by unfold bnA1; rw [if_neg c11, if_neg c18, hC30]
      rw [eA] at hA0 hA1c hq0
      exact j25  C30 o30 va30 hM30 ⟨hO30.1, (hO30.2.trans rfl)⟩ (frM.rf.trans hf30) hA0 hA1c.2.2 hq0 (by omega)
