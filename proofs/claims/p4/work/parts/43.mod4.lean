set_option maxHeartbeats 4000000 in
set_option maxRecDepth 100000 in
theorem c_M_showNumber {l : Launch} {D : va_G} {A : Nat → Prop} {cI cB cZ cJ cN : ClassId} {ob : Nat → Nat} {C : CT} {T : TS} {O : OS} {dom : Nat → Prop} {loc : Nat → Nat} {val : Nat → va_E} (hM : ModI cI cB cZ ob C T O dom loc val) (hO : OI O) (x : Int32) (h0 : 0 ≤ x) (hs : ooSm O + 10 ≤ 4300) : kM l y_M_showNumber (Cond.code y_M_showNumber b_M_showNumber 3 none :: TT) (rmM 2) D CL (TY cI cB cZ cJ cN) A [.ref (ob 48), .int x] dom loc val (PMo cI cB cZ ob T O dom loc val (fun rv C2 O2 => rv = none ∧ C = C2 ∧ ooSm O2 ≤ ooSm O + 10)) := by
  refine kM_of (lv0 := [some (.ref (ob 48)), some (.int x), none]) (own := "ProsePagesModel") (by decide) rfl (List.forall_mem_cons.mpr ⟨rfl, List.forall_mem_cons.mpr ⟨rfl, fun _ h => nomatch h⟩⟩) (Nat.le_of_ble_eq_true rfl) rfl (Nat.le_of_ble_eq_true rfl) (fun X hl hX hE hin0 => ?_)
  have digz : ∀ (oL : OS) (vaL : Nat → va_E), ModI cI cB cZ ob C T oL dom loc vaL → (OI oL ∧ ooCt oL = ooCt O) → frM val vaL → ooSm oL + 0 ≤ ooSm O + 10 → V X D CL A dom loc vaL 0 0 18 [some (.ref (ob 48)), some (.int x), some (.int 0)] [] := by
    intro oL vaL hML hOL hfL hsL
    refine v_iload_n hX d_M_showNumber_18 rfl rfl ?_
    refine v_if_le hX d_M_showNumber_19 (tgt := 43) (by decide) (fun _ => ?_) (fun c => absurd (by decide) c)
    exact v_vret hX hE d_M_showNumber_43 (Nat.le_of_ble_eq_true rfl) (Nat.le_of_ble_eq_true rfl) ⟨rfl, rfl, rfl, rfl, C, oL, ⟨rfl, rfl, by omega⟩, hML, ⟨hOL.1, hOL.2⟩, hfL⟩
  have dig0 : ∀ (oL : OS) (vaL : Nat → va_E), ModI cI cB cZ ob C T oL dom loc vaL → (OI oL ∧ ooCt oL = ooCt O) → frM val vaL → ooSm oL + 1 ≤ ooSm O + 10 → V X D CL A dom loc vaL 0 0 18 [some (.ref (ob 48)), some (.int x), some (.int 1)] [] := by
    intro oL vaL hML hOL hfL hsL
    refine v_iload_n hX d_M_showNumber_18 rfl rfl ?_
    refine v_if_le hX d_M_showNumber_19 (tgt := 43) (by decide) (fun c => absurd c (by decide)) (fun _ => ?_)
    refine v_aload_n hX d_M_showNumber_22 rfl rfl ?_
    refine v_bipush (v := 48) hX d_M_showNumber_23 (by decide) ?_
    refine v_iload_n hX d_M_showNumber_25 rfl rfl ?_
    refine v_iload_n hX d_M_showNumber_26 rfl rfl ?_
    refine v_idiv hX d_M_showNumber_27 (by decide) ?_
    refine v_bipush (v := 10) hX d_M_showNumber_28 (by decide) ?_
    refine v_irem hX d_M_showNumber_30 (by decide) ?_
    refine v_iadd hX d_M_showNumber_31 ?_
    refine c_V hX 48 (rest := []) hl (c_M_show hML hOL.1 (48 + ((x / 1) - (x / 1) / 10 * 10)) (by omega)) ml_M_148 im_M_show se_M_show in_M cd_M_show rfl q_M_show ⟨(Nat.le_of_ble_eq_true rfl), (Nat.le_of_ble_eq_true rfl)⟩ hML.1.1 hML.1.2.1 hML.1.2.2 rfl rfl rfl rfl (Nat.le_of_ble_eq_true rfl) d_M_showNumber_32 ⟨(Nat.le_of_ble_eq_true rfl), (Nat.le_of_ble_eq_true rfl)⟩ (fun rv d2 lo2 va1 kc ns hp => ?_)
    obtain ⟨rfl, rfl, rfl, rfl, _, o1, ⟨rfl, rfl, hs1⟩, hM1, hO1, hf1⟩ := hp
    show V X D CL A _ _ _ _ _ _ _ []
    refine v_iload_n hX d_M_showNumber_35 rfl rfl ?_
    refine v_bipush (v := 10) hX d_M_showNumber_36 (by decide) ?_
    refine v_idivE (v := 0) hX d_M_showNumber_38 (by decide) (by decide) ?_
    refine v_istore_n (lv' := [some (.ref (ob 48)), some (.int x), some (.int 0)]) hX d_M_showNumber_39 rfl (Nat.le_of_ble_eq_true rfl) rfl ?_
    refine v_goto hX d_M_showNumber_40 (tgt := 18) (by decide) ?_
    exact digz o1 va1 hM1 ⟨hO1.1, (hO1.2.trans hOL.2)⟩ (hfL.trans hf1) (by omega)
  have dig1 : ∀ (oL : OS) (vaL : Nat → va_E), ModI cI cB cZ ob C T oL dom loc vaL → (OI oL ∧ ooCt oL = ooCt O) → frM val vaL → ooSm oL + 2 ≤ ooSm O + 10 → V X D CL A dom loc vaL 0 0 18 [some (.ref (ob 48)), some (.int x), some (.int 10)] [] := by
    intro oL vaL hML hOL hfL hsL
    refine v_iload_n hX d_M_showNumber_18 rfl rfl ?_
    refine v_if_le hX d_M_showNumber_19 (tgt := 43) (by decide) (fun c => absurd c (by decide)) (fun _ => ?_)
    refine v_aload_n hX d_M_showNumber_22 rfl rfl ?_
    refine v_bipush (v := 48) hX d_M_showNumber_23 (by decide) ?_
    refine v_iload_n hX d_M_showNumber_25 rfl rfl ?_
    refine v_iload_n hX d_M_showNumber_26 rfl rfl ?_
    refine v_idiv hX d_M_showNumber_27 (by decide) ?_
    refine v_bipush (v := 10) hX d_M_showNumber_28 (by decide) ?_
    refine v_irem hX d_M_showNumber_30 (by decide) ?_
    refine v_iadd hX d_M_showNumber_31 ?_
    refine c_V hX 48 (rest := []) hl (c_M_show hML hOL.1 (48 + ((x / 10) - (x / 10) / 10 * 10)) (by omega)) ml_M_148 im_M_show se_M_show in_M cd_M_show rfl q_M_show ⟨(Nat.le_of_ble_eq_true rfl), (Nat.le_of_ble_eq_true rfl)⟩ hML.1.1 hML.1.2.1 hML.1.2.2 rfl rfl rfl rfl (Nat.le_of_ble_eq_true rfl) d_M_showNumber_32 ⟨(Nat.le_of_ble_eq_true rfl), (Nat.le_of_ble_eq_true rfl)⟩ (fun rv d2 lo2 va2 kc ns hp => ?_)
    obtain ⟨rfl, rfl, rfl, rfl, _, o2, ⟨rfl, rfl, hs2⟩, hM2, hO2, hf2⟩ := hp
    show V X D CL A _ _ _ _ _ _ _ []
    refine v_iload_n hX d_M_showNumber_35 rfl rfl ?_
    refine v_bipush (v := 10) hX d_M_showNumber_36 (by decide) ?_
    refine v_idivE (v := 1) hX d_M_showNumber_38 (by decide) (by decide) ?_
    refine v_istore_n (lv' := [some (.ref (ob 48)), some (.int x), some (.int 1)]) hX d_M_showNumber_39 rfl (Nat.le_of_ble_eq_true rfl) rfl ?_
    refine v_goto hX d_M_showNumber_40 (tgt := 18) (by decide) ?_
    exact dig0 o2 va2 hM2 ⟨hO2.1, (hO2.2.trans hOL.2)⟩ (hfL.trans hf2) (by omega)
  have dig2 : ∀ (oL : OS) (vaL : Nat → va_E), ModI cI cB cZ ob C T oL dom loc vaL → (OI oL ∧ ooCt oL = ooCt O) → frM val vaL → ooSm oL + 3 ≤ ooSm O + 10 → V X D CL A dom loc vaL 0 0 18 [some (.ref (ob 48)), some (.int x), some (.int 100)] [] := by
    intro oL vaL hML hOL hfL hsL
    refine v_iload_n hX d_M_showNumber_18 rfl rfl ?_
    refine v_if_le hX d_M_showNumber_19 (tgt := 43) (by decide) (fun c => absurd c (by decide)) (fun _ => ?_)
    refine v_aload_n hX d_M_showNumber_22 rfl rfl ?_
    refine v_bipush (v := 48) hX d_M_showNumber_23 (by decide) ?_
    refine v_iload_n hX d_M_showNumber_25 rfl rfl ?_
    refine v_iload_n hX d_M_showNumber_26 rfl rfl ?_
    refine v_idiv hX d_M_showNumber_27 (by decide) ?_
    refine v_bipush (v := 10) hX d_M_showNumber_28 (by decide) ?_
    refine v_irem hX d_M_showNumber_30 (by decide) ?_
    refine v_iadd hX d_M_showNumber_31 ?_
    refine c_V hX 48 (rest := []) hl (c_M_show hML hOL.1 (48 + ((x / 100) - (x / 100) / 10 * 10)) (by omega)) ml_M_148 im_M_show se_M_show in_M cd_M_show rfl q_M_show ⟨(Nat.le_of_ble_eq_true rfl), (Nat.le_of_ble_eq_true rfl)⟩ hML.1.1 hML.1.2.1 hML.1.2.2 rfl rfl rfl rfl (Nat.le_of_ble_eq_true rfl) d_M_showNumber_32 ⟨(Nat.le_of_ble_eq_true rfl), (Nat.le_of_ble_eq_true rfl)⟩ (fun rv d2 lo2 va3 kc ns hp => ?_)
    obtain ⟨rfl, rfl, rfl, rfl, _, o3, ⟨rfl, rfl, hs3⟩, hM3, hO3, hf3⟩ := hp
    show V X D CL A _ _ _ _ _ _ _ []
    refine v_iload_n hX d_M_showNumber_35 rfl rfl ?_
    refine v_bipush (v := 10) hX d_M_showNumber_36 (by decide) ?_
    refine v_idivE (v := 10) hX d_M_showNumber_38 (by decide) (by decide) ?_
    refine v_istore_n (lv' := [some (.ref (ob 48)), some (.int x), some (.int 10)]) hX d_M_showNumber_39 rfl (Nat.le_of_ble_eq_true rfl) rfl ?_
    refine v_goto hX d_M_showNumber_40 (tgt := 18) (by decide) ?_
    exact dig1 o3 va3 hM3 ⟨hO3.1, (hO3.2.trans hOL.2)⟩ (hfL.trans hf3) (by omega)
  have dig3 : ∀ (oL : OS) (vaL : Nat → va_E), ModI cI cB cZ ob C T oL dom loc vaL → (OI oL ∧ ooCt oL = ooCt O) → frM val vaL → ooSm oL + 4 ≤ ooSm O + 10 → V X D CL A dom loc vaL 0 0 18 [some (.ref (ob 48)), some (.int x), some (.int 1000)] [] := by
    intro oL vaL hML hOL hfL hsL
    refine v_iload_n hX d_M_showNumber_18 rfl rfl ?_
    refine v_if_le hX d_M_showNumber_19 (tgt := 43) (by decide) (fun c => absurd c (by decide)) (fun _ => ?_)
    refine v_aload_n hX d_M_showNumber_22 rfl rfl ?_
    refine v_bipush (v := 48) hX d_M_showNumber_23 (by decide) ?_
    refine v_iload_n hX d_M_showNumber_25 rfl rfl ?_
    refine v_iload_n hX d_M_showNumber_26 rfl rfl ?_
    refine v_idiv hX d_M_showNumber_27 (by decide) ?_
    refine v_bipush (v := 10) hX d_M_showNumber_28 (by decide) ?_
    refine v_irem hX d_M_showNumber_30 (by decide) ?_
    refine v_iadd hX d_M_showNumber_31 ?_
    refine c_V hX 48 (rest := []) hl (c_M_show hML hOL.1 (48 + ((x / 1000) - (x / 1000) / 10 * 10)) (by omega)) ml_M_148 im_M_show se_M_show in_M cd_M_show rfl q_M_show ⟨(Nat.le_of_ble_eq_true rfl), (Nat.le_of_ble_eq_true rfl)⟩ hML.1.1 hML.1.2.1 hML.1.2.2 rfl rfl rfl rfl (Nat.le_of_ble_eq_true rfl) d_M_showNumber_32 ⟨(Nat.le_of_ble_eq_true rfl), (Nat.le_of_ble_eq_true rfl)⟩ (fun rv d2 lo2 va4 kc ns hp => ?_)
    obtain ⟨rfl, rfl, rfl, rfl, _, o4, ⟨rfl, rfl, hs4⟩, hM4, hO4, hf4⟩ := hp
    show V X D CL A _ _ _ _ _ _ _ []
    refine v_iload_n hX d_M_showNumber_35 rfl rfl ?_
    refine v_bipush (v := 10) hX d_M_showNumber_36 (by decide) ?_
    refine v_idivE (v := 100) hX d_M_showNumber_38 (by decide) (by decide) ?_
    refine v_istore_n (lv' := [some (.ref (ob 48)), some (.int x), some (.int 100)]) hX d_M_showNumber_39 rfl (Nat.le_of_ble_eq_true rfl) rfl ?_
    refine v_goto hX d_M_showNumber_40 (tgt := 18) (by decide) ?_
    exact dig2 o4 va4 hM4 ⟨hO4.1, (hO4.2.trans hOL.2)⟩ (hfL.trans hf4) (by omega)
  have dig4 : ∀ (oL : OS) (vaL : Nat → va_E), ModI cI cB cZ ob C T oL dom loc vaL → (OI oL ∧ ooCt oL = ooCt O) → frM val vaL → ooSm oL + 5 ≤ ooSm O + 10 → V X D CL A dom loc vaL 0 0 18 [some (.ref (ob 48)), some (.int x), some (.int 10000)] [] := by
    intro oL vaL hML hOL hfL hsL
    refine v_iload_n hX d_M_showNumber_18 rfl rfl ?_
    refine v_if_le hX d_M_showNumber_19 (tgt := 43) (by decide) (fun c => absurd c (by decide)) (fun _ => ?_)
    refine v_aload_n hX d_M_showNumber_22 rfl rfl ?_
    refine v_bipush (v := 48) hX d_M_showNumber_23 (by decide) ?_
    refine v_iload_n hX d_M_showNumber_25 rfl rfl ?_
    refine v_iload_n hX d_M_showNumber_26 rfl rfl ?_
    refine v_idiv hX d_M_showNumber_27 (by decide) ?_
    refine v_bipush (v := 10) hX d_M_showNumber_28 (by decide) ?_
    refine v_irem hX d_M_showNumber_30 (by decide) ?_
    refine v_iadd hX d_M_showNumber_31 ?_
    refine c_V hX 48 (rest := []) hl (c_M_show hML hOL.1 (48 + ((x / 10000) - (x / 10000) / 10 * 10)) (by omega)) ml_M_148 im_M_show se_M_show in_M cd_M_show rfl q_M_show ⟨(Nat.le_of_ble_eq_true rfl), (Nat.le_of_ble_eq_true rfl)⟩ hML.1.1 hML.1.2.1 hML.1.2.2 rfl rfl rfl rfl (Nat.le_of_ble_eq_true rfl) d_M_showNumber_32 ⟨(Nat.le_of_ble_eq_true rfl), (Nat.le_of_ble_eq_true rfl)⟩ (fun rv d2 lo2 va5 kc ns hp => ?_)
    obtain ⟨rfl, rfl, rfl, rfl, _, o5, ⟨rfl, rfl, hs5⟩, hM5, hO5, hf5⟩ := hp
    show V X D CL A _ _ _ _ _ _ _ []
    refine v_iload_n hX d_M_showNumber_35 rfl rfl ?_
    refine v_bipush (v := 10) hX d_M_showNumber_36 (by decide) ?_
    refine v_idivE (v := 1000) hX d_M_showNumber_38 (by decide) (by decide) ?_
    refine v_istore_n (lv' := [some (.ref (ob 48)), some (.int x), some (.int 1000)]) hX d_M_showNumber_39 rfl (Nat.le_of_ble_eq_true rfl) rfl ?_
    refine v_goto hX d_M_showNumber_40 (tgt := 18) (by decide) ?_
    exact dig3 o5 va5 hM5 ⟨hO5.1, (hO5.2.trans hOL.2)⟩ (hfL.trans hf5) (by omega)
  have dig5 : ∀ (oL : OS) (vaL : Nat → va_E), ModI cI cB cZ ob C T oL dom loc vaL → (OI oL ∧ ooCt oL = ooCt O) → frM val vaL → ooSm oL + 6 ≤ ooSm O + 10 → V X D CL A dom loc vaL 0 0 18 [some (.ref (ob 48)), some (.int x), some (.int 100000)] [] := by
    intro oL vaL hML hOL hfL hsL
    refine v_iload_n hX d_M_showNumber_18 rfl rfl ?_
    refine v_if_le hX d_M_showNumber_19 (tgt := 43) (by decide) (fun c => absurd c (by decide)) (fun _ => ?_)
    refine v_aload_n hX d_M_showNumber_22 rfl rfl ?_
    refine v_bipush (v := 48) hX d_M_showNumber_23 (by decide) ?_
    refine v_iload_n hX d_M_showNumber_25 rfl rfl ?_
    refine v_iload_n hX d_M_showNumber_26 rfl rfl ?_
    refine v_idiv hX d_M_showNumber_27 (by decide) ?_
    refine v_bipush (v := 10) hX d_M_showNumber_28 (by decide) ?_
    refine v_irem hX d_M_showNumber_30 (by decide) ?_
    refine v_iadd hX d_M_showNumber_31 ?_
    refine c_V hX 48 (rest := []) hl (c_M_show hML hOL.1 (48 + ((x / 100000) - (x / 100000) / 10 * 10)) (by omega)) ml_M_148 im_M_show se_M_show in_M cd_M_show rfl q_M_show ⟨(Nat.le_of_ble_eq_true rfl), (Nat.le_of_ble_eq_true rfl)⟩ hML.1.1 hML.1.2.1 hML.1.2.2 rfl rfl rfl rfl (Nat.le_of_ble_eq_true rfl) d_M_showNumber_32 ⟨(Nat.le_of_ble_eq_true rfl), (Nat.le_of_ble_eq_true rfl)⟩ (fun rv d2 lo2 va6 kc ns hp => ?_)
    obtain ⟨rfl, rfl, rfl, rfl, _, o6, ⟨rfl, rfl, hs6⟩, hM6, hO6, hf6⟩ := hp
    show V X D CL A _ _ _ _ _ _ _ []
    refine v_iload_n hX d_M_showNumber_35 rfl rfl ?_
    refine v_bipush (v := 10) hX d_M_showNumber_36 (by decide) ?_
    refine v_idivE (v := 10000) hX d_M_showNumber_38 (by decide) (by decide) ?_
    refine v_istore_n (lv' := [some (.ref (ob 48)), some (.int x), some (.int 10000)]) hX d_M_showNumber_39 rfl (Nat.le_of_ble_eq_true rfl) rfl ?_
    refine v_goto hX d_M_showNumber_40 (tgt := 18) (by decide) ?_
    exact dig4 o6 va6 hM6 ⟨hO6.1, (hO6.2.trans hOL.2)⟩ (hfL.trans hf6) (by omega)
  have dig6 : ∀ (oL : OS) (vaL : Nat → va_E), ModI cI cB cZ ob C T oL dom loc vaL → (OI oL ∧ ooCt oL = ooCt O) → frM val vaL → ooSm oL + 7 ≤ ooSm O + 10 → V X D CL A dom loc vaL 0 0 18 [some (.ref (ob 48)), some (.int x), some (.int 1000000)] [] := by
    intro oL vaL hML hOL hfL hsL
    refine v_iload_n hX d_M_showNumber_18 rfl rfl ?_
    refine v_if_le hX d_M_showNumber_19 (tgt := 43) (by decide) (fun c => absurd c (by decide)) (fun _ => ?_)
    refine v_aload_n hX d_M_showNumber_22 rfl rfl ?_
    refine v_bipush (v := 48) hX d_M_showNumber_23 (by decide) ?_
    refine v_iload_n hX d_M_showNumber_25 rfl rfl ?_
    refine v_iload_n hX d_M_showNumber_26 rfl rfl ?_
    refine v_idiv hX d_M_showNumber_27 (by decide) ?_
    refine v_bipush (v := 10) hX d_M_showNumber_28 (by decide) ?_
    refine v_irem hX d_M_showNumber_30 (by decide) ?_
    refine v_iadd hX d_M_showNumber_31 ?_
    refine c_V hX 48 (rest := []) hl (c_M_show hML hOL.1 (48 + ((x / 1000000) - (x / 1000000) / 10 * 10)) (by omega)) ml_M_148 im_M_show se_M_show in_M cd_M_show rfl q_M_show ⟨(Nat.le_of_ble_eq_true rfl), (Nat.le_of_ble_eq_true rfl)⟩ hML.1.1 hML.1.2.1 hML.1.2.2 rfl rfl rfl rfl (Nat.le_of_ble_eq_true rfl) d_M_showNumber_32 ⟨(Nat.le_of_ble_eq_true rfl), (Nat.le_of_ble_eq_true rfl)⟩ (fun rv d2 lo2 va7 kc ns hp => ?_)
    obtain ⟨rfl, rfl, rfl, rfl, _, o7, ⟨rfl, rfl, hs7⟩, hM7, hO7, hf7⟩ := hp
    show V X D CL A _ _ _ _ _ _ _ []
    refine v_iload_n hX d_M_showNumber_35 rfl rfl ?_
    refine v_bipush (v := 10) hX d_M_showNumber_36 (by decide) ?_
    refine v_idivE (v := 100000) hX d_M_showNumber_38 (by decide) (by decide) ?_
    refine v_istore_n (lv' := [some (.ref (ob 48)), some (.int x), some (.int 100000)]) hX d_M_showNumber_39 rfl (Nat.le_of_ble_eq_true rfl) rfl ?_
    refine v_goto hX d_M_showNumber_40 (tgt := 18) (by decide) ?_
    exact dig5 o7 va7 hM7 ⟨hO7.1, (hO7.2.trans hOL.2)⟩ (hfL.trans hf7) (by omega)
  have dig7 : ∀ (oL : OS) (vaL : Nat → va_E), ModI cI cB cZ ob C T oL dom loc vaL → (OI oL ∧ ooCt oL = ooCt O) → frM val vaL → ooSm oL + 8 ≤ ooSm O + 10 → V X D CL A dom loc vaL 0 0 18 [some (.ref (ob 48)), some (.int x), some (.int 10000000)] [] := by
    intro oL vaL hML hOL hfL hsL
    refine v_iload_n hX d_M_showNumber_18 rfl rfl ?_
    refine v_if_le hX d_M_showNumber_19 (tgt := 43) (by decide) (fun c => absurd c (by decide)) (fun _ => ?_)
    refine v_aload_n hX d_M_showNumber_22 rfl rfl ?_
    refine v_bipush (v := 48) hX d_M_showNumber_23 (by decide) ?_
    refine v_iload_n hX d_M_showNumber_25 rfl rfl ?_
    refine v_iload_n hX d_M_showNumber_26 rfl rfl ?_
    refine v_idiv hX d_M_showNumber_27 (by decide) ?_
    refine v_bipush (v := 10) hX d_M_showNumber_28 (by decide) ?_
    refine v_irem hX d_M_showNumber_30 (by decide) ?_
    refine v_iadd hX d_M_showNumber_31 ?_
    refine c_V hX 48 (rest := []) hl (c_M_show hML hOL.1 (48 + ((x / 10000000) - (x / 10000000) / 10 * 10)) (by omega)) ml_M_148 im_M_show se_M_show in_M cd_M_show rfl q_M_show ⟨(Nat.le_of_ble_eq_true rfl), (Nat.le_of_ble_eq_true rfl)⟩ hML.1.1 hML.1.2.1 hML.1.2.2 rfl rfl rfl rfl (Nat.le_of_ble_eq_true rfl) d_M_showNumber_32 ⟨(Nat.le_of_ble_eq_true rfl), (Nat.le_of_ble_eq_true rfl)⟩ (fun rv d2 lo2 va8 kc ns hp => ?_)
    obtain ⟨rfl, rfl, rfl, rfl, _, o8, ⟨rfl, rfl, hs8⟩, hM8, hO8, hf8⟩ := hp
    show V X D CL A _ _ _ _ _ _ _ []
    refine v_iload_n hX d_M_showNumber_35 rfl rfl ?_
    refine v_bipush (v := 10) hX d_M_showNumber_36 (by decide) ?_
    refine v_idivE (v := 1000000) hX d_M_showNumber_38 (by decide) (by decide) ?_
    refine v_istore_n (lv' := [some (.ref (ob 48)), some (.int x), some (.int 1000000)]) hX d_M_showNumber_39 rfl (Nat.le_of_ble_eq_true rfl) rfl ?_
    refine v_goto hX d_M_showNumber_40 (tgt := 18) (by decide) ?_
    exact dig6 o8 va8 hM8 ⟨hO8.1, (hO8.2.trans hOL.2)⟩ (hfL.trans hf8) (by omega)
  have dig8 : ∀ (oL : OS) (vaL : Nat → va_E), ModI cI cB cZ ob C T oL dom loc vaL → (OI oL ∧ ooCt oL = ooCt O) → frM val vaL → ooSm oL + 9 ≤ ooSm O + 10 → V X D CL A dom loc vaL 0 0 18 [some (.ref (ob 48)), some (.int x), some (.int 100000000)] [] := by
    intro oL vaL hML hOL hfL hsL
    refine v_iload_n hX d_M_showNumber_18 rfl rfl ?_
    refine v_if_le hX d_M_showNumber_19 (tgt := 43) (by decide) (fun c => absurd c (by decide)) (fun _ => ?_)
    refine v_aload_n hX d_M_showNumber_22 rfl rfl ?_
    refine v_bipush (v := 48) hX d_M_showNumber_23 (by decide) ?_
    refine v_iload_n hX d_M_showNumber_25 rfl rfl ?_
    refine v_iload_n hX d_M_showNumber_26 rfl rfl ?_
    refine v_idiv hX d_M_showNumber_27 (by decide) ?_
    refine v_bipush (v := 10) hX d_M_showNumber_28 (by decide) ?_
    refine v_irem hX d_M_showNumber_30 (by decide) ?_
    refine v_iadd hX d_M_showNumber_31 ?_
    refine c_V hX 48 (rest := []) hl (c_M_show hML hOL.1 (48 + ((x / 100000000) - (x / 100000000) / 10 * 10)) (by omega)) ml_M_148 im_M_show se_M_show in_M cd_M_show rfl q_M_show ⟨(Nat.le_of_ble_eq_true rfl), (Nat.le_of_ble_eq_true rfl)⟩ hML.1.1 hML.1.2.1 hML.1.2.2 rfl rfl rfl rfl (Nat.le_of_ble_eq_true rfl) d_M_showNumber_32 ⟨(Nat.le_of_ble_eq_true rfl), (Nat.le_of_ble_eq_true rfl)⟩ (fun rv d2 lo2 va9 kc ns hp => ?_)
    obtain ⟨rfl, rfl, rfl, rfl, _, o9, ⟨rfl, rfl, hs9⟩, hM9, hO9, hf9⟩ := hp
    show V X D CL A _ _ _ _ _ _ _ []
    refine v_iload_n hX d_M_showNumber_35 rfl rfl ?_
    refine v_bipush (v := 10) hX d_M_showNumber_36 (by decide) ?_
    refine v_idivE (v := 10000000) hX d_M_showNumber_38 (by decide) (by decide) ?_
    refine v_istore_n (lv' := [some (.ref (ob 48)), some (.int x), some (.int 10000000)]) hX d_M_showNumber_39 rfl (Nat.le_of_ble_eq_true rfl) rfl ?_
    refine v_goto hX d_M_showNumber_40 (tgt := 18) (by decide) ?_
    exact dig7 o9 va9 hM9 ⟨hO9.1, (hO9.2.trans hOL.2)⟩ (hfL.trans hf9) (by omega)
  have dig9 : ∀ (oL : OS) (vaL : Nat → va_E), ModI cI cB cZ ob C T oL dom loc vaL → (OI oL ∧ ooCt oL = ooCt O) → frM val vaL → ooSm oL + 10 ≤ ooSm O + 10 → V X D CL A dom loc vaL 0 0 18 [some (.ref (ob 48)), some (.int x), some (.int 1000000000)] [] := by
    intro oL vaL hML hOL hfL hsL
    refine v_iload_n hX d_M_showNumber_18 rfl rfl ?_
    refine v_if_le hX d_M_showNumber_19 (tgt := 43) (by decide) (fun c => absurd c (by decide)) (fun _ => ?_)
    refine v_aload_n hX d_M_showNumber_22 rfl rfl ?_
    refine v_bipush (v := 48) hX d_M_showNumber_23 (by decide) ?_
    refine v_iload_n hX d_M_showNumber_25 rfl rfl ?_
    refine v_iload_n hX d_M_showNumber_26 rfl rfl ?_
    refine v_idiv hX d_M_showNumber_27 (by decide) ?_
    refine v_bipush (v := 10) hX d_M_showNumber_28 (by decide) ?_
    refine v_irem hX d_M_showNumber_30 (by decide) ?_
    refine v_iadd hX d_M_showNumber_31 ?_
    refine c_V hX 48 (rest := []) hl (c_M_show hML hOL.1 (48 + ((x / 1000000000) - (x / 1000000000) / 10 * 10)) (by omega)) ml_M_148 im_M_show se_M_show in_M cd_M_show rfl q_M_show ⟨(Nat.le_of_ble_eq_true rfl), (Nat.le_of_ble_eq_true rfl)⟩ hML.1.1 hML.1.2.1 hML.1.2.2 rfl rfl rfl rfl (Nat.le_of_ble_eq_true rfl) d_M_showNumber_32 ⟨(Nat.le_of_ble_eq_true rfl), (Nat.le_of_ble_eq_true rfl)⟩ (fun rv d2 lo2 va10 kc ns hp => ?_)
    obtain ⟨rfl, rfl, rfl, rfl, _, o10, ⟨rfl, rfl, hs10⟩, hM10, hO10, hf10⟩ := hp
    show V X D CL A _ _ _ _ _ _ _ []
    refine v_iload_n hX d_M_showNumber_35 rfl rfl ?_
    refine v_bipush (v := 10) hX d_M_showNumber_36 (by decide) ?_
    refine v_idivE (v := 100000000) hX d_M_showNumber_38 (by decide) (by decide) ?_
    refine v_istore_n (lv' := [some (.ref (ob 48)), some (.int x), some (.int 100000000)]) hX d_M_showNumber_39 rfl (Nat.le_of_ble_eq_true rfl) rfl ?_
    refine v_goto hX d_M_showNumber_40 (tgt := 18) (by decide) ?_
    exact dig8 o10 va10 hM10 ⟨hO10.1, (hO10.2.trans hOL.2)⟩ (hfL.trans hf10) (by omega)
  refine v_iconst (v := 1) hX d_M_showNumber_0 (by decide) ?_
  refine v_istore_n (lv' := [some (.ref (ob 48)), some (.int x), some (.int 1)]) hX d_M_showNumber_1 rfl (Nat.le_of_ble_eq_true rfl) rfl ?_
  refine v_iload_n hX d_M_showNumber_2 rfl rfl ?_
  refine v_iload_n hX d_M_showNumber_3 rfl rfl ?_
  refine v_idiv hX d_M_showNumber_4 (by decide) ?_
  refine v_bipush (v := 9) hX d_M_showNumber_5 (by decide) ?_
  refine v_icmp_le hX d_M_showNumber_7 (tgt := 18) (by decide) (fun c7 => ?_) (fun c7 => ?_)
  · exact dig0 O val hM ⟨hO, rfl⟩ frM.rf (by omega)
  · refine v_iload_n hX d_M_showNumber_10 rfl rfl ?_
    refine v_bipush (v := 10) hX d_M_showNumber_11 (by decide) ?_
    refine v_imulE (v := 10) hX d_M_showNumber_13 (by decide) ?_
    refine v_istore_n (lv' := [some (.ref (ob 48)), some (.int x), some (.int 10)]) hX d_M_showNumber_14 rfl (Nat.le_of_ble_eq_true rfl) rfl ?_
    refine v_goto hX d_M_showNumber_15 (tgt := 2) (by decide) ?_
    refine v_iload_n hX d_M_showNumber_2 rfl rfl ?_
    refine v_iload_n hX d_M_showNumber_3 rfl rfl ?_
    refine v_idiv hX d_M_showNumber_4 (by decide) ?_
    refine v_bipush (v := 9) hX d_M_showNumber_5 (by decide) ?_
    refine v_icmp_le hX d_M_showNumber_7 (tgt := 18) (by decide) (fun c7 => ?_) (fun c7 => ?_)
    · exact dig1 O val hM ⟨hO, rfl⟩ frM.rf (by omega)
    · refine v_iload_n hX d_M_showNumber_10 rfl rfl ?_
      refine v_bipush (v := 10) hX d_M_showNumber_11 (by decide) ?_
      refine v_imulE (v := 100) hX d_M_showNumber_13 (by decide) ?_
      refine v_istore_n (lv' := [some (.ref (ob 48)), some (.int x), some (.int 100)]) hX d_M_showNumber_14 rfl (Nat.le_of_ble_eq_true rfl) rfl ?_
      refine v_goto hX d_M_showNumber_15 (tgt := 2) (by decide) ?_
      refine v_iload_n hX d_M_showNumber_2 rfl rfl ?_
      refine v_iload_n hX d_M_showNumber_3 rfl rfl ?_
      refine v_idiv hX d_M_showNumber_4 (by decide) ?_
      refine v_bipush (v := 9) hX d_M_showNumber_5 (by decide) ?_
      refine v_icmp_le hX d_M_showNumber_7 (tgt := 18) (by decide) (fun c7 => ?_) (fun c7 => ?_)
      · exact dig2 O val hM ⟨hO, rfl⟩ frM.rf (by omega)
      · refine v_iload_n hX d_M_showNumber_10 rfl rfl ?_
        refine v_bipush (v := 10) hX d_M_showNumber_11 (by decide) ?_
        refine v_imulE (v := 1000) hX d_M_showNumber_13 (by decide) ?_
        refine v_istore_n (lv' := [some (.ref (ob 48)), some (.int x), some (.int 1000)]) hX d_M_showNumber_14 rfl (Nat.le_of_ble_eq_true rfl) rfl ?_
        refine v_goto hX d_M_showNumber_15 (tgt := 2) (by decide) ?_
        refine v_iload_n hX d_M_showNumber_2 rfl rfl ?_
        refine v_iload_n hX d_M_showNumber_3 rfl rfl ?_
        refine v_idiv hX d_M_showNumber_4 (by decide) ?_
        refine v_bipush (v := 9) hX d_M_showNumber_5 (by decide) ?_
        refine v_icmp_le hX d_M_showNumber_7 (tgt := 18) (by decide) (fun c7 => ?_) (fun c7 => ?_)
        · exact dig3 O val hM ⟨hO, rfl⟩ frM.rf (by omega)
        · refine v_iload_n hX d_M_showNumber_10 rfl rfl ?_
          refine v_bipush (v := 10) hX d_M_showNumber_11 (by decide) ?_
          refine v_imulE (v := 10000) hX d_M_showNumber_13 (by decide) ?_
          refine v_istore_n (lv' := [some (.ref (ob 48)), some (.int x), some (.int 10000)]) hX d_M_showNumber_14 rfl (Nat.le_of_ble_eq_true rfl) rfl ?_
          refine v_goto hX d_M_showNumber_15 (tgt := 2) (by decide) ?_
          refine v_iload_n hX d_M_showNumber_2 rfl rfl ?_
          refine v_iload_n hX d_M_showNumber_3 rfl rfl ?_
          refine v_idiv hX d_M_showNumber_4 (by decide) ?_
          refine v_bipush (v := 9) hX d_M_showNumber_5 (by decide) ?_
          refine v_icmp_le hX d_M_showNumber_7 (tgt := 18) (by decide) (fun c7 => ?_) (fun c7 => ?_)
          · exact dig4 O val hM ⟨hO, rfl⟩ frM.rf (by omega)
          · refine v_iload_n hX d_M_showNumber_10 rfl rfl ?_
            refine v_bipush (v := 10) hX d_M_showNumber_11 (by decide) ?_
            refine v_imulE (v := 100000) hX d_M_showNumber_13 (by decide) ?_
            refine v_istore_n (lv' := [some (.ref (ob 48)), some (.int x), some (.int 100000)]) hX d_M_showNumber_14 rfl (Nat.le_of_ble_eq_true rfl) rfl ?_
            refine v_goto hX d_M_showNumber_15 (tgt := 2) (by decide) ?_
            refine v_iload_n hX d_M_showNumber_2 rfl rfl ?_
            refine v_iload_n hX d_M_showNumber_3 rfl rfl ?_
            refine v_idiv hX d_M_showNumber_4 (by decide) ?_
            refine v_bipush (v := 9) hX d_M_showNumber_5 (by decide) ?_
            refine v_icmp_le hX d_M_showNumber_7 (tgt := 18) (by decide) (fun c7 => ?_) (fun c7 => ?_)
            · exact dig5 O val hM ⟨hO, rfl⟩ frM.rf (by omega)
            · refine v_iload_n hX d_M_showNumber_10 rfl rfl ?_
              refine v_bipush (v := 10) hX d_M_showNumber_11 (by decide) ?_
              refine v_imulE (v := 1000000) hX d_M_showNumber_13 (by decide) ?_
              refine v_istore_n (lv' := [some (.ref (ob 48)), some (.int x), some (.int 1000000)]) hX d_M_showNumber_14 rfl (Nat.le_of_ble_eq_true rfl) rfl ?_
              refine v_goto hX d_M_showNumber_15 (tgt := 2) (by decide) ?_
              refine v_iload_n hX d_M_showNumber_2 rfl rfl ?_
              refine v_iload_n hX d_M_showNumber_3 rfl rfl ?_
              refine v_idiv hX d_M_showNumber_4 (by decide) ?_
              refine v_bipush (v := 9) hX d_M_showNumber_5 (by decide) ?_
              refine v_icmp_le hX d_M_showNumber_7 (tgt := 18) (by decide) (fun c7 => ?_) (fun c7 => ?_)
              · exact dig6 O val hM ⟨hO, rfl⟩ frM.rf (by omega)
              · refine v_iload_n hX d_M_showNumber_10 rfl rfl ?_
                refine v_bipush (v := 10) hX d_M_showNumber_11 (by decide) ?_
                refine v_imulE (v := 10000000) hX d_M_showNumber_13 (by decide) ?_
                refine v_istore_n (lv' := [some (.ref (ob 48)), some (.int x), some (.int 10000000)]) hX d_M_showNumber_14 rfl (Nat.le_of_ble_eq_true rfl) rfl ?_
                refine v_goto hX d_M_showNumber_15 (tgt := 2) (by decide) ?_
                refine v_iload_n hX d_M_showNumber_2 rfl rfl ?_
                refine v_iload_n hX d_M_showNumber_3 rfl rfl ?_
                refine v_idiv hX d_M_showNumber_4 (by decide) ?_
                refine v_bipush (v := 9) hX d_M_showNumber_5 (by decide) ?_
                refine v_icmp_le hX d_M_showNumber_7 (tgt := 18) (by decide) (fun c7 => ?_) (fun c7 => ?_)
                · exact dig7 O val hM ⟨hO, rfl⟩ frM.rf (by omega)
                · refine v_iload_n hX d_M_showNumber_10 rfl rfl ?_
                  refine v_bipush (v := 10) hX d_M_showNumber_11 (by decide) ?_
                  refine v_imulE (v := 100000000) hX d_M_showNumber_13 (by decide) ?_
                  refine v_istore_n (lv' := [some (.ref (ob 48)), some (.int x), some (.int 100000000)]) hX d_M_showNumber_14 rfl (Nat.le_of_ble_eq_true rfl) rfl ?_
                  refine v_goto hX d_M_showNumber_15 (tgt := 2) (by decide) ?_
                  refine v_iload_n hX d_M_showNumber_2 rfl rfl ?_
                  refine v_iload_n hX d_M_showNumber_3 rfl rfl ?_
                  refine v_idiv hX d_M_showNumber_4 (by decide) ?_
                  refine v_bipush (v := 9) hX d_M_showNumber_5 (by decide) ?_
                  refine v_icmp_le hX d_M_showNumber_7 (tgt := 18) (by decide) (fun c7 => ?_) (fun c7 => ?_)
                  · exact dig8 O val hM ⟨hO, rfl⟩ frM.rf (by omega)
                  · refine v_iload_n hX d_M_showNumber_10 rfl rfl ?_
                    refine v_bipush (v := 10) hX d_M_showNumber_11 (by decide) ?_
                    refine v_imulE (v := 1000000000) hX d_M_showNumber_13 (by decide) ?_
                    refine v_istore_n (lv' := [some (.ref (ob 48)), some (.int x), some (.int 1000000000)]) hX d_M_showNumber_14 rfl (Nat.le_of_ble_eq_true rfl) rfl ?_
                    refine v_goto hX d_M_showNumber_15 (tgt := 2) (by decide) ?_
                    refine v_iload_n hX d_M_showNumber_2 rfl rfl ?_
                    refine v_iload_n hX d_M_showNumber_3 rfl rfl ?_
                    refine v_idiv hX d_M_showNumber_4 (by decide) ?_
                    refine v_bipush (v := 9) hX d_M_showNumber_5 (by decide) ?_
                    refine v_icmp_le hX d_M_showNumber_7 (tgt := 18) (by decide) (fun _ => ?_) (fun c => absurd (Int32.not_lt.mp (i32_divG h0)) c)
                    exact dig9 O val hM ⟨hO, rfl⟩ frM.rf (by omega)
set_option maxHeartbeats 4000000 in
set_option maxRecDepth 100000 in
theorem c_M_showHolders {l : Launch} {D : va_G} {A : Nat → Prop} {cI cB cZ cJ cN : ClassId} {ob : Nat → Nat} {C : CT} {T : TS} {O : OS} {dom : Nat → Prop} {loc : Nat → Nat} {val : Nat → va_E} (hM : ModI cI cB cZ ob C T O dom loc val) (hO : OI O) {n : Nat} (hn : n ≤ 14) : kM l y_M_showHolders (Cond.code y_M_showHolders b_M_showHolders 4 none :: TT) (rmM 3) D CL (TY cI cB cZ cJ cN) A [.ref (ob 48), .int (nI n)] dom loc val (PMo cI cB cZ ob T O dom loc val (fun rv C2 O2 => rv = none ∧ due n C = C2 ∧ ooSm O2 ≤ 200)) := by
  refine kM_of (lv0 := [some (.ref (ob 48)), some (.int (nI n)), none, none]) (own := "ProsePagesModel") (by decide) rfl (List.forall_mem_cons.mpr ⟨rfl, List.forall_mem_cons.mpr ⟨rfl, fun _ h => nomatch h⟩⟩) (Nat.le_of_ble_eq_true rfl) rfl (Nat.le_of_ble_eq_true rfl) (fun X hl hX hE hin0 => ?_)
  refine v_aload_n hX d_M_showHolders_0 rfl rfl ?_
  refine v_iconst (v := 0) hX d_M_showHolders_1 (by decide) ?_
  refine v_mput hX hM 40 C T (soSm O 0) (by decide) fl_M_145 rfl rfl rfl rfl pf_shownMany pa_shownMany d_M_showHolders_2 (fun va1 hM1 hf1 => ?_)
  refine v_iconst (v := 0) hX d_M_showHolders_5 (by decide) ?_
  refine v_istore_n (lv' := [some (.ref (ob 48)), some (.int (nI n)), some (.int 0), none]) hX d_M_showHolders_6 rfl (Nat.le_of_ble_eq_true rfl) rfl ?_
  have loop7 : ∀ (m9 : Nat) (h : Nat) (o3 : Option Value) (CL7 : CT) (oL7 : OS) (vaL7 : Nat → va_E), n - h < m9 → ModI cI cB cZ ob CL7 T oL7 dom loc vaL7 → (OI oL7 ∧ ooCt oL7 = ooCt O) → frM val vaL7 → (h ≤ n) → (CL7 = due h C) → (ooSm oL7 ≤ 14 * h) → V X D CL A dom loc vaL7 0 0 7 [some (.ref (ob 48)), some (.int (nI n)), some (.int (nI h)), o3] [] := by
    intro m9
    induction m9 with
    | zero => intro h o3 CL7 oL7 vaL7 hk7 hML7 hOL7 hfL7 hh hC7 hs7; exact absurd hk7 (Nat.not_lt_zero _)
    | succ m9 ih7 =>
      intro h o3 CL7 oL7 vaL7 hk7 hML7 hOL7 hfL7 hh hC7 hs7
      refine v_iload_n hX d_M_showHolders_7 rfl rfl ?_
      refine v_iload_n hX d_M_showHolders_8 rfl rfl ?_
      refine v_icmp_ge hX d_M_showHolders_9 (tgt := 160) (by decide) (fun c9 => ?_) (fun c9 => ?_)
      · have f9 : n ≤ h := (nI_leI (a := n) (b := h) (by omega) (by omega)).mp c9
        exact v_vret hX hE d_M_showHolders_160 (Nat.le_of_ble_eq_true rfl) (Nat.le_of_ble_eq_true rfl) ⟨rfl, rfl, rfl, rfl, CL7, oL7, ⟨rfl, (hC7.trans (congrArg (fun z => due z C) (show h = n by omega))).symm, by omega⟩, hML7, ⟨hOL7.1, hOL7.2⟩, hfL7⟩
      · have f9 : ¬ n ≤ h := fun z => c9 ((nI_leI (a := n) (b := h) (by omega) (by omega)).mpr z)
        refine v_aload_n hX d_M_showHolders_12 rfl rfl ?_
        refine v_mget hX hML7 26 (v := .ref (ob 65)) (by decide) fl_M_61 rfl rfl d_M_showHolders_13 ?_
        refine v_iload_n hX d_M_showHolders_16 rfl rfl ?_
        refine v_mild hX hML7 16 (i := h) (v := ((zK CL7) h)) ga_hKind (by omega) (by decide) rfl d_M_showHolders_17 ?_
        refine v_iconst (v := 4) hX d_M_showHolders_18 (by decide) ?_
        refine v_icmp_ne hX d_M_showHolders_19 (tgt := 37) (by decide) (fun c19 => ?_) (fun c19 => ?_)
        · refine v_aload_n hX d_M_showHolders_37 rfl rfl ?_
          refine v_mget hX hML7 26 (v := .ref (ob 65)) (by decide) fl_M_61 rfl rfl d_M_showHolders_38 ?_
          refine v_iload_n hX d_M_showHolders_41 rfl rfl ?_
          refine v_mild hX hML7 16 (i := h) (v := ((zK CL7) h)) ga_hKind (by omega) (by decide) rfl d_M_showHolders_42 ?_
          refine v_bipush (v := 7) hX d_M_showHolders_43 (by decide) ?_
          refine v_icmp_ne hX d_M_showHolders_45 (tgt := 116) (by decide) (fun c45 => ?_) (fun c45 => ?_)
          · refine v_aload_n hX d_M_showHolders_116 rfl rfl ?_
            refine v_mget hX hML7 26 (v := .ref (ob 65)) (by decide) fl_M_61 rfl rfl d_M_showHolders_117 ?_
            refine v_iload_n hX d_M_showHolders_120 rfl rfl ?_
            refine v_mild hX hML7 16 (i := h) (v := ((zK CL7) h)) ga_hKind (by omega) (by decide) rfl d_M_showHolders_121 ?_
            refine v_bipush (v := 7) hX d_M_showHolders_122 (by decide) ?_
            refine v_icmp_ne hX d_M_showHolders_124 (tgt := 154) (by decide) (fun c124 => ?_) (fun c124 => ?_)
            · refine v_iinc (y := (nI (h + 1))) (lv' := [some (.ref (ob 48)), some (.int (nI n)), some (.int (nI (h + 1))), o3]) hX d_M_showHolders_154 rfl (nI_1 h) rfl ?_
              refine v_goto hX d_M_showHolders_157 (tgt := 7) (by decide) ?_
              exact ih7 (h + 1) o3 CL7 oL7 vaL7 (by omega) hML7 ⟨hOL7.1, hOL7.2⟩ hfL7 (by omega) (due_miss2 hC7 (Or.inl c124)) (by omega)
            · refine v_iconst (v := 0) hX d_M_showHolders_127 (by decide) ?_
              refine v_istore_n (lv' := [some (.ref (ob 48)), some (.int (nI n)), some (.int (nI h)), some (.int 0)]) hX d_M_showHolders_128 rfl (Nat.le_of_ble_eq_true rfl) rfl ?_
              have loop129 : ∀ (m9 : Nat) (k : Nat) (CL129 : CT) (oL129 : OS) (vaL129 : Nat → va_E), sl (zS CL7 h) - k < m9 → ModI cI cB cZ ob CL129 T oL129 dom loc vaL129 → (OI oL129 ∧ ooCt oL129 = ooCt O) → frM val vaL129 → (k ≤ sl (zS CL7 h)) → (CL7 = CL129) → (ooSm oL129 ≤ 14 * h + k) → V X D CL A dom loc vaL129 0 0 129 [some (.ref (ob 48)), some (.int (nI n)), some (.int (nI h)), some (.int (nI k))] [] := by
                intro m9
                induction m9 with
                | zero => intro k CL129 oL129 vaL129 hk129 hML129 hOL129 hfL129 hk2 hC129 hs129; exact absurd hk129 (Nat.not_lt_zero _)
                | succ m9 ih129 =>
                  intro k CL129 oL129 vaL129 hk129 hML129 hOL129 hfL129 hk2 hC129 hs129
                  subst hC129
                  have hslk := sl_le (zS CL7 h)
                  refine v_iload_n hX d_M_showHolders_129 rfl rfl ?_
                  refine v_aload_n hX d_M_showHolders_130 rfl rfl ?_
                  refine v_mget hX hML129 28 (v := .ref (ob 67)) (by decide) fl_M_67 rfl rfl d_M_showHolders_131 ?_
                  refine v_iload_n hX d_M_showHolders_134 rfl rfl ?_
                  refine v_mild hX hML129 18 (i := h) (v := ((zS CL7) h)) ga_hSign (by omega) (by decide) rfl d_M_showHolders_135 ?_
                  refine c_S hX (rest := [.int (nI k)]) hl (c_M_signLength ((zS CL7) h)) ml_M_155 sm_M_signLength in_M cd_M_signLength rfl q_M_signLength ⟨(Nat.le_of_ble_eq_true rfl), (Nat.le_of_ble_eq_true rfl)⟩ rfl rfl rfl (Nat.le_of_ble_eq_true rfl) d_M_showHolders_136 ⟨(Nat.le_of_ble_eq_true rfl), (Nat.le_of_ble_eq_true rfl)⟩ (fun rv d2 lo2 va2 kc ns hp => ?_)
                  obtain ⟨rfl, rfl, rfl, rfl, rfl, rfl⟩ := hp
                  show V X D CL A _ _ _ _ _ _ _ (.int (nI (sl ((zS CL7) h))) :: [.int (nI k)])
                  have hsl2 := sl_le ((zS CL7) h)
                  refine v_icmp_ge hX d_M_showHolders_139 (tgt := 154) (by decide) (fun c139 => ?_) (fun c139 => ?_)
                  · have f139 : (sl ((zS CL7) h)) ≤ k := (nI_leI (a := (sl ((zS CL7) h))) (b := k) (by omega) (by omega)).mp c139
                    refine v_iinc (y := (nI (h + 1))) (lv' := [some (.ref (ob 48)), some (.int (nI n)), some (.int (nI (h + 1))), some (.int (nI k))]) hX d_M_showHolders_154 rfl (nI_1 h) rfl ?_
                    refine v_goto hX d_M_showHolders_157 (tgt := 7) (by decide) ?_
                    exact ih7 (h + 1) (some (.int (nI k))) CL7 oL129 vaL129 (by omega) hML129 ⟨hOL129.1, hOL129.2⟩ hfL129 (by omega) (due_miss2 hC7 (Or.inl c45)) (by omega)
                  · have f139 : ¬ (sl ((zS CL7) h)) ≤ k := fun z => c139 ((nI_leI (a := (sl ((zS CL7) h))) (b := k) (by omega) (by omega)).mpr z)
                    refine v_aload_n hX d_M_showHolders_142 rfl rfl ?_
                    refine v_bipush (v := 32) hX d_M_showHolders_143 (by decide) ?_
                    refine c_V hX 48 (rest := []) hl (c_M_show hML129 hOL129.1 32 (by omega)) ml_M_148 im_M_show se_M_show in_M cd_M_show rfl q_M_show ⟨(Nat.le_of_ble_eq_true rfl), (Nat.le_of_ble_eq_true rfl)⟩ hML129.1.1 hML129.1.2.1 hML129.1.2.2 rfl rfl rfl rfl (Nat.le_of_ble_eq_true rfl) d_M_showHolders_145 ⟨(Nat.le_of_ble_eq_true rfl), (Nat.le_of_ble_eq_true rfl)⟩ (fun rv d2 lo2 va3 kc ns hp => ?_)
                    obtain ⟨rfl, rfl, rfl, rfl, _, o3, ⟨rfl, rfl, hs3⟩, hM3, hO3, hf3⟩ := hp
                    show V X D CL A _ _ _ _ _ _ _ []
                    refine v_iinc (y := (nI (k + 1))) (lv' := [some (.ref (ob 48)), some (.int (nI n)), some (.int (nI h)), some (.int (nI (k + 1)))]) hX d_M_showHolders_148 rfl (nI_1 k) rfl ?_
                    refine v_goto hX d_M_showHolders_151 (tgt := 129) (by decide) ?_
                    exact ih129 (k + 1) CL7 o3 va3 (by omega) hM3 ⟨hO3.1, (hO3.2.trans hOL129.2)⟩ (hfL129.trans hf3) (by omega) rfl (by omega)
              exact loop129 _ 0 CL7 oL7 vaL7 (Nat.lt_succ_self _) hML7 ⟨hOL7.1, hOL7.2⟩ hfL7 (Nat.zero_le _) rfl (by omega)
          · refine v_aload_n hX d_M_showHolders_48 rfl rfl ?_
            refine v_mget hX hML7 30 (v := .ref (ob 69)) (by decide) fl_M_73 rfl rfl d_M_showHolders_49 ?_
            refine v_iload_n hX d_M_showHolders_52 rfl rfl ?_
            refine v_mzld hX hML7 20 (i := h) (v := ((zD CL7) h)) ga_hDue (by omega) (by decide) rfl d_M_showHolders_53 ?_
            refine v_if_eq hX d_M_showHolders_54 (tgt := 116) (by decide) (fun c54 => ?_) (fun c54 => ?_)
            · refine v_aload_n hX d_M_showHolders_116 rfl rfl ?_
              refine v_mget hX hML7 26 (v := .ref (ob 65)) (by decide) fl_M_61 rfl rfl d_M_showHolders_117 ?_
              refine v_iload_n hX d_M_showHolders_120 rfl rfl ?_
              refine v_mild hX hML7 16 (i := h) (v := ((zK CL7) h)) ga_hKind (by omega) (by decide) rfl d_M_showHolders_121 ?_
              refine v_bipush (v := 7) hX d_M_showHolders_122 (by decide) ?_
              refine v_icmp_ne hX d_M_showHolders_124 (tgt := 154) (by decide) (fun c124 => ?_) (fun c124 => ?_)
              · refine v_iinc (y := (nI (h + 1))) (lv' := [some (.ref (ob 48)), some (.int (nI n)), some (.int (nI (h + 1))), o3]) hX d_M_showHolders_154 rfl (nI_1 h) rfl ?_
                refine v_goto hX d_M_showHolders_157 (tgt := 7) (by decide) ?_
                exact ih7 (h + 1) o3 CL7 oL7 vaL7 (by omega) hML7 ⟨hOL7.1, hOL7.2⟩ hfL7 (by omega) (due_miss2 hC7 (Or.inl c124)) (by omega)
              · refine v_iconst (v := 0) hX d_M_showHolders_127 (by decide) ?_
                refine v_istore_n (lv' := [some (.ref (ob 48)), some (.int (nI n)), some (.int (nI h)), some (.int 0)]) hX d_M_showHolders_128 rfl (Nat.le_of_ble_eq_true rfl) rfl ?_
                have loop129 : ∀ (m9 : Nat) (k : Nat) (CL129 : CT) (oL129 : OS) (vaL129 : Nat → va_E), sl (zS CL7 h) - k < m9 → ModI cI cB cZ ob CL129 T oL129 dom loc vaL129 → (OI oL129 ∧ ooCt oL129 = ooCt O) → frM val vaL129 → (k ≤ sl (zS CL7 h)) → (CL7 = CL129) → (ooSm oL129 ≤ 14 * h + k) → V X D CL A dom loc vaL129 0 0 129 [some (.ref (ob 48)), some (.int (nI n)), some (.int (nI h)), some (.int (nI k))] [] := by
                  intro m9
                  induction m9 with
                  | zero => intro k CL129 oL129 vaL129 hk129 hML129 hOL129 hfL129 hk2 hC129 hs129; exact absurd hk129 (Nat.not_lt_zero _)
                  | succ m9 ih129 =>
                    intro k CL129 oL129 vaL129 hk129 hML129 hOL129 hfL129 hk2 hC129 hs129
                    subst hC129
                    have hslk := sl_le (zS CL7 h)
                    refine v_iload_n hX d_M_showHolders_129 rfl rfl ?_
                    refine v_aload_n hX d_M_showHolders_130 rfl rfl ?_
                    refine v_mget hX hML129 28 (v := .ref (ob 67)) (by decide) fl_M_67 rfl rfl d_M_showHolders_131 ?_
                    refine v_iload_n hX d_M_showHolders_134 rfl rfl ?_
                    refine v_mild hX hML129 18 (i := h) (v := ((zS CL7) h)) ga_hSign (by omega) (by decide) rfl d_M_showHolders_135 ?_
                    refine c_S hX (rest := [.int (nI k)]) hl (c_M_signLength ((zS CL7) h)) ml_M_155 sm_M_signLength in_M cd_M_signLength rfl q_M_signLength ⟨(Nat.le_of_ble_eq_true rfl), (Nat.le_of_ble_eq_true rfl)⟩ rfl rfl rfl (Nat.le_of_ble_eq_true rfl) d_M_showHolders_136 ⟨(Nat.le_of_ble_eq_true rfl), (Nat.le_of_ble_eq_true rfl)⟩ (fun rv d2 lo2 va2 kc ns hp => ?_)
                    obtain ⟨rfl, rfl, rfl, rfl, rfl, rfl⟩ := hp
                    show V X D CL A _ _ _ _ _ _ _ (.int (nI (sl ((zS CL7) h))) :: [.int (nI k)])
                    have hsl4 := sl_le ((zS CL7) h)
                    refine v_icmp_ge hX d_M_showHolders_139 (tgt := 154) (by decide) (fun c139 => ?_) (fun c139 => ?_)
                    · have f139 : (sl ((zS CL7) h)) ≤ k := (nI_leI (a := (sl ((zS CL7) h))) (b := k) (by omega) (by omega)).mp c139
                      refine v_iinc (y := (nI (h + 1))) (lv' := [some (.ref (ob 48)), some (.int (nI n)), some (.int (nI (h + 1))), some (.int (nI k))]) hX d_M_showHolders_154 rfl (nI_1 h) rfl ?_
                      refine v_goto hX d_M_showHolders_157 (tgt := 7) (by decide) ?_
                      exact ih7 (h + 1) (some (.int (nI k))) CL7 oL129 vaL129 (by omega) hML129 ⟨hOL129.1, hOL129.2⟩ hfL129 (by omega) (due_miss2 hC7 (Or.inr c54)) (by omega)
                    · have f139 : ¬ (sl ((zS CL7) h)) ≤ k := fun z => c139 ((nI_leI (a := (sl ((zS CL7) h))) (b := k) (by omega) (by omega)).mpr z)
                      refine v_aload_n hX d_M_showHolders_142 rfl rfl ?_
                      refine v_bipush (v := 32) hX d_M_showHolders_143 (by decide) ?_
                      refine c_V hX 48 (rest := []) hl (c_M_show hML129 hOL129.1 32 (by omega)) ml_M_148 im_M_show se_M_show in_M cd_M_show rfl q_M_show ⟨(Nat.le_of_ble_eq_true rfl), (Nat.le_of_ble_eq_true rfl)⟩ hML129.1.1 hML129.1.2.1 hML129.1.2.2 rfl rfl rfl rfl (Nat.le_of_ble_eq_true rfl) d_M_showHolders_145 ⟨(Nat.le_of_ble_eq_true rfl), (Nat.le_of_ble_eq_true rfl)⟩ (fun rv d2 lo2 va5 kc ns hp => ?_)
                      obtain ⟨rfl, rfl, rfl, rfl, _, o5, ⟨rfl, rfl, hs5⟩, hM5, hO5, hf5⟩ := hp
                      show V X D CL A _ _ _ _ _ _ _ []
                      refine v_iinc (y := (nI (k + 1))) (lv' := [some (.ref (ob 48)), some (.int (nI n)), some (.int (nI h)), some (.int (nI (k + 1)))]) hX d_M_showHolders_148 rfl (nI_1 k) rfl ?_
                      refine v_goto hX d_M_showHolders_151 (tgt := 129) (by decide) ?_
                      exact ih129 (k + 1) CL7 o5 va5 (by omega) hM5 ⟨hO5.1, (hO5.2.trans hOL129.2)⟩ (hfL129.trans hf5) (by omega) rfl (by omega)
                exact loop129 _ 0 CL7 oL7 vaL7 (Nat.lt_succ_self _) hML7 ⟨hOL7.1, hOL7.2⟩ hfL7 (Nat.zero_le _) rfl (by omega)
            · refine v_aload_n hX d_M_showHolders_57 rfl rfl ?_
              refine v_mget hX hML7 28 (v := .ref (ob 67)) (by decide) fl_M_67 rfl rfl d_M_showHolders_58 ?_
              refine v_iload_n hX d_M_showHolders_61 rfl rfl ?_
              refine v_mild hX hML7 18 (i := h) (v := ((zS CL7) h)) ga_hSign (by omega) (by decide) rfl d_M_showHolders_62 ?_
              refine v_if_ge hX d_M_showHolders_63 (tgt := 75) (by decide) (fun c63 => ?_) (fun c63 => ?_)
              · refine v_aload_n hX d_M_showHolders_75 rfl rfl ?_
                refine v_aload_n hX d_M_showHolders_76 rfl rfl ?_
                refine v_mget hX hML7 28 (v := .ref (ob 67)) (by decide) fl_M_67 rfl rfl d_M_showHolders_77 ?_
                refine v_iload_n hX d_M_showHolders_80 rfl rfl ?_
                refine v_mild hX hML7 18 (i := h) (v := ((zS CL7) h)) ga_hSign (by omega) (by decide) rfl d_M_showHolders_81 ?_
                refine c_V hX 48 (rest := []) hl (c_M_showNumber hML7 hOL7.1 ((zS CL7) h) c63 (by omega)) ml_M_152 im_M_showNumber se_M_showNumber in_M cd_M_showNumber rfl q_M_showNumber ⟨(Nat.le_of_ble_eq_true rfl), (Nat.le_of_ble_eq_true rfl)⟩ hML7.1.1 hML7.1.2.1 hML7.1.2.2 rfl rfl rfl rfl (Nat.le_of_ble_eq_true rfl) d_M_showHolders_82 ⟨(Nat.le_of_ble_eq_true rfl), (Nat.le_of_ble_eq_true rfl)⟩ (fun rv d2 lo2 va6 kc ns hp => ?_)
                obtain ⟨rfl, rfl, rfl, rfl, _, o6, ⟨rfl, rfl, hs6⟩, hM6, hO6, hf6⟩ := hp
                show V X D CL A _ _ _ _ _ _ _ []
                refine v_aload_n hX d_M_showHolders_85 rfl rfl ?_
                refine v_mget hX hM6 28 (v := .ref (ob 67)) (by decide) fl_M_67 rfl rfl d_M_showHolders_86 ?_
                refine v_iload_n hX d_M_showHolders_89 rfl rfl ?_
                refine v_mild hX hM6 18 (i := h) (v := ((zS CL7) h)) ga_hSign (by omega) (by decide) rfl d_M_showHolders_90 ?_
                refine v_if_lt hX d_M_showHolders_91 (tgt := 100) (by decide) (fun c91 => ?_) (fun c91 => ?_)
                · refine v_aload_n hX d_M_showHolders_100 rfl rfl ?_
                  refine v_bipush (v := 32) hX d_M_showHolders_101 (by decide) ?_
                  refine c_V hX 48 (rest := []) hl (c_M_show hM6 hO6.1 32 (by omega)) ml_M_148 im_M_show se_M_show in_M cd_M_show rfl q_M_show ⟨(Nat.le_of_ble_eq_true rfl), (Nat.le_of_ble_eq_true rfl)⟩ hM6.1.1 hM6.1.2.1 hM6.1.2.2 rfl rfl rfl rfl (Nat.le_of_ble_eq_true rfl) d_M_showHolders_103 ⟨(Nat.le_of_ble_eq_true rfl), (Nat.le_of_ble_eq_true rfl)⟩ (fun rv d2 lo2 va7 kc ns hp => ?_)
                  obtain ⟨rfl, rfl, rfl, rfl, _, o7, ⟨rfl, rfl, hs7⟩, hM7, hO7, hf7⟩ := hp
                  show V X D CL A _ _ _ _ _ _ _ []
                  refine v_aload_n hX d_M_showHolders_106 rfl rfl ?_
                  refine v_mget hX hM7 30 (v := .ref (ob 69)) (by decide) fl_M_73 rfl rfl d_M_showHolders_107 ?_
                  refine v_iload_n hX d_M_showHolders_110 rfl rfl ?_
                  refine v_iconst (v := 0) hX d_M_showHolders_111 (by decide) ?_
                  refine v_mzst hX hM7 20 (szD CL7 (upd (zD CL7) h (vp_nar .boolean 0))) T o7 (i := h) (by decide) ga_hDue (by omega) (by decide) qf_hDue qa_hDue d_M_showHolders_112 (fun va8 hM8 hf8 => ?_)
                  refine v_goto hX d_M_showHolders_113 (tgt := 154) (by decide) ?_
                  refine v_iinc (y := (nI (h + 1))) (lv' := [some (.ref (ob 48)), some (.int (nI n)), some (.int (nI (h + 1))), o3]) hX d_M_showHolders_154 rfl (nI_1 h) rfl ?_
                  refine v_goto hX d_M_showHolders_157 (tgt := 7) (by decide) ?_
                  exact ih7 (h + 1) o3 (szD CL7 (upd (zD CL7) h (vp_nar .boolean 0))) o7 va8 (by omega) hM8 ⟨hO7.1, (hO7.2.trans (hO6.2.trans hOL7.2))⟩ (((hfL7.trans hf6).trans hf7).trans hf8) (by omega) (due_hit2 hC7 c45) (by omega)
                · refine v_aload_n hX d_M_showHolders_94 rfl rfl ?_
                  refine v_bipush (v := 46) hX d_M_showHolders_95 (by decide) ?_
                  refine c_V hX 48 (rest := []) hl (c_M_show hM6 hO6.1 46 (by omega)) ml_M_148 im_M_show se_M_show in_M cd_M_show rfl q_M_show ⟨(Nat.le_of_ble_eq_true rfl), (Nat.le_of_ble_eq_true rfl)⟩ hM6.1.1 hM6.1.2.1 hM6.1.2.2 rfl rfl rfl rfl (Nat.le_of_ble_eq_true rfl) d_M_showHolders_97 ⟨(Nat.le_of_ble_eq_true rfl), (Nat.le_of_ble_eq_true rfl)⟩ (fun rv d2 lo2 va9 kc ns hp => ?_)
                  obtain ⟨rfl, rfl, rfl, rfl, _, o9, ⟨rfl, rfl, hs9⟩, hM9, hO9, hf9⟩ := hp
                  show V X D CL A _ _ _ _ _ _ _ []
                  refine v_aload_n hX d_M_showHolders_100 rfl rfl ?_
                  refine v_bipush (v := 32) hX d_M_showHolders_101 (by decide) ?_
                  refine c_V hX 48 (rest := []) hl (c_M_show hM9 hO9.1 32 (by omega)) ml_M_148 im_M_show se_M_show in_M cd_M_show rfl q_M_show ⟨(Nat.le_of_ble_eq_true rfl), (Nat.le_of_ble_eq_true rfl)⟩ hM9.1.1 hM9.1.2.1 hM9.1.2.2 rfl rfl rfl rfl (Nat.le_of_ble_eq_true rfl) d_M_showHolders_103 ⟨(Nat.le_of_ble_eq_true rfl), (Nat.le_of_ble_eq_true rfl)⟩ (fun rv d2 lo2 va10 kc ns hp => ?_)
                  obtain ⟨rfl, rfl, rfl, rfl, _, o10, ⟨rfl, rfl, hs10⟩, hM10, hO10, hf10⟩ := hp
                  show V X D CL A _ _ _ _ _ _ _ []
                  refine v_aload_n hX d_M_showHolders_106 rfl rfl ?_
                  refine v_mget hX hM10 30 (v := .ref (ob 69)) (by decide) fl_M_73 rfl rfl d_M_showHolders_107 ?_
                  refine v_iload_n hX d_M_showHolders_110 rfl rfl ?_
                  refine v_iconst (v := 0) hX d_M_showHolders_111 (by decide) ?_
                  refine v_mzst hX hM10 20 (szD CL7 (upd (zD CL7) h (vp_nar .boolean 0))) T o10 (i := h) (by decide) ga_hDue (by omega) (by decide) qf_hDue qa_hDue d_M_showHolders_112 (fun va11 hM11 hf11 => ?_)
                  refine v_goto hX d_M_showHolders_113 (tgt := 154) (by decide) ?_
                  refine v_iinc (y := (nI (h + 1))) (lv' := [some (.ref (ob 48)), some (.int (nI n)), some (.int (nI (h + 1))), o3]) hX d_M_showHolders_154 rfl (nI_1 h) rfl ?_
                  refine v_goto hX d_M_showHolders_157 (tgt := 7) (by decide) ?_
                  exact ih7 (h + 1) o3 (szD CL7 (upd (zD CL7) h (vp_nar .boolean 0))) o10 va11 (by omega) hM11 ⟨hO10.1, (hO10.2.trans (hO9.2.trans (hO6.2.trans hOL7.2)))⟩ ((((hfL7.trans hf6).trans hf9).trans hf10).trans hf11) (by omega) (due_hit2 hC7 c45) (by omega)
              · refine v_aload_n hX d_M_showHolders_66 rfl rfl ?_
                refine v_bipush (v := 42) hX d_M_showHolders_67 (by decide) ?_
                refine c_V hX 48 (rest := []) hl (c_M_show hML7 hOL7.1 42 (by omega)) ml_M_148 im_M_show se_M_show in_M cd_M_show rfl q_M_show ⟨(Nat.le_of_ble_eq_true rfl), (Nat.le_of_ble_eq_true rfl)⟩ hML7.1.1 hML7.1.2.1 hML7.1.2.2 rfl rfl rfl rfl (Nat.le_of_ble_eq_true rfl) d_M_showHolders_69 ⟨(Nat.le_of_ble_eq_true rfl), (Nat.le_of_ble_eq_true rfl)⟩ (fun rv d2 lo2 va12 kc ns hp => ?_)
                obtain ⟨rfl, rfl, rfl, rfl, _, o12, ⟨rfl, rfl, hs12⟩, hM12, hO12, hf12⟩ := hp
                show V X D CL A _ _ _ _ _ _ _ []
                refine v_goto hX d_M_showHolders_72 (tgt := 85) (by decide) ?_
                refine v_aload_n hX d_M_showHolders_85 rfl rfl ?_
                refine v_mget hX hM12 28 (v := .ref (ob 67)) (by decide) fl_M_67 rfl rfl d_M_showHolders_86 ?_
                refine v_iload_n hX d_M_showHolders_89 rfl rfl ?_
                refine v_mild hX hM12 18 (i := h) (v := ((zS CL7) h)) ga_hSign (by omega) (by decide) rfl d_M_showHolders_90 ?_
                refine v_if_lt hX d_M_showHolders_91 (tgt := 100) (by decide) (fun c91 => ?_) (fun c91 => ?_)
                · refine v_aload_n hX d_M_showHolders_100 rfl rfl ?_
                  refine v_bipush (v := 32) hX d_M_showHolders_101 (by decide) ?_
                  refine c_V hX 48 (rest := []) hl (c_M_show hM12 hO12.1 32 (by omega)) ml_M_148 im_M_show se_M_show in_M cd_M_show rfl q_M_show ⟨(Nat.le_of_ble_eq_true rfl), (Nat.le_of_ble_eq_true rfl)⟩ hM12.1.1 hM12.1.2.1 hM12.1.2.2 rfl rfl rfl rfl (Nat.le_of_ble_eq_true rfl) d_M_showHolders_103 ⟨(Nat.le_of_ble_eq_true rfl), (Nat.le_of_ble_eq_true rfl)⟩ (fun rv d2 lo2 va13 kc ns hp => ?_)
                  obtain ⟨rfl, rfl, rfl, rfl, _, o13, ⟨rfl, rfl, hs13⟩, hM13, hO13, hf13⟩ := hp
                  show V X D CL A _ _ _ _ _ _ _ []
                  refine v_aload_n hX d_M_showHolders_106 rfl rfl ?_
                  refine v_mget hX hM13 30 (v := .ref (ob 69)) (by decide) fl_M_73 rfl rfl d_M_showHolders_107 ?_
                  refine v_iload_n hX d_M_showHolders_110 rfl rfl ?_
                  refine v_iconst (v := 0) hX d_M_showHolders_111 (by decide) ?_
                  refine v_mzst hX hM13 20 (szD CL7 (upd (zD CL7) h (vp_nar .boolean 0))) T o13 (i := h) (by decide) ga_hDue (by omega) (by decide) qf_hDue qa_hDue d_M_showHolders_112 (fun va14 hM14 hf14 => ?_)
                  refine v_goto hX d_M_showHolders_113 (tgt := 154) (by decide) ?_
                  refine v_iinc (y := (nI (h + 1))) (lv' := [some (.ref (ob 48)), some (.int (nI n)), some (.int (nI (h + 1))), o3]) hX d_M_showHolders_154 rfl (nI_1 h) rfl ?_
                  refine v_goto hX d_M_showHolders_157 (tgt := 7) (by decide) ?_
                  exact ih7 (h + 1) o3 (szD CL7 (upd (zD CL7) h (vp_nar .boolean 0))) o13 va14 (by omega) hM14 ⟨hO13.1, (hO13.2.trans (hO12.2.trans hOL7.2))⟩ (((hfL7.trans hf12).trans hf13).trans hf14) (by omega) (due_hit2 hC7 c45) (by omega)
                · refine v_aload_n hX d_M_showHolders_94 rfl rfl ?_
                  refine v_bipush (v := 46) hX d_M_showHolders_95 (by decide) ?_
                  refine c_V hX 48 (rest := []) hl (c_M_show hM12 hO12.1 46 (by omega)) ml_M_148 im_M_show se_M_show in_M cd_M_show rfl q_M_show ⟨(Nat.le_of_ble_eq_true rfl), (Nat.le_of_ble_eq_true rfl)⟩ hM12.1.1 hM12.1.2.1 hM12.1.2.2 rfl rfl rfl rfl (Nat.le_of_ble_eq_true rfl) d_M_showHolders_97 ⟨(Nat.le_of_ble_eq_true rfl), (Nat.le_of_ble_eq_true rfl)⟩ (fun rv d2 lo2 va15 kc ns hp => ?_)
                  obtain ⟨rfl, rfl, rfl, rfl, _, o15, ⟨rfl, rfl, hs15⟩, hM15, hO15, hf15⟩ := hp
                  show V X D CL A _ _ _ _ _ _ _ []
                  refine v_aload_n hX d_M_showHolders_100 rfl rfl ?_
                  refine v_bipush (v := 32) hX d_M_showHolders_101 (by decide) ?_
                  refine c_V hX 48 (rest := []) hl (c_M_show hM15 hO15.1 32 (by omega)) ml_M_148 im_M_show se_M_show in_M cd_M_show rfl q_M_show ⟨(Nat.le_of_ble_eq_true rfl), (Nat.le_of_ble_eq_true rfl)⟩ hM15.1.1 hM15.1.2.1 hM15.1.2.2 rfl rfl rfl rfl (Nat.le_of_ble_eq_true rfl) d_M_showHolders_103 ⟨(Nat.le_of_ble_eq_true rfl), (Nat.le_of_ble_eq_true rfl)⟩ (fun rv d2 lo2 va16 kc ns hp => ?_)
                  obtain ⟨rfl, rfl, rfl, rfl, _, o16, ⟨rfl, rfl, hs16⟩, hM16, hO16, hf16⟩ := hp
                  show V X D CL A _ _ _ _ _ _ _ []
                  refine v_aload_n hX d_M_showHolders_106 rfl rfl ?_
                  refine v_mget hX hM16 30 (v := .ref (ob 69)) (by decide) fl_M_73 rfl rfl d_M_showHolders_107 ?_
                  refine v_iload_n hX d_M_showHolders_110 rfl rfl ?_
                  refine v_iconst (v := 0) hX d_M_showHolders_111 (by decide) ?_
                  refine v_mzst hX hM16 20 (szD CL7 (upd (zD CL7) h (vp_nar .boolean 0))) T o16 (i := h) (by decide) ga_hDue (by omega) (by decide) qf_hDue qa_hDue d_M_showHolders_112 (fun va17 hM17 hf17 => ?_)
                  refine v_goto hX d_M_showHolders_113 (tgt := 154) (by decide) ?_
                  refine v_iinc (y := (nI (h + 1))) (lv' := [some (.ref (ob 48)), some (.int (nI n)), some (.int (nI (h + 1))), o3]) hX d_M_showHolders_154 rfl (nI_1 h) rfl ?_
                  refine v_goto hX d_M_showHolders_157 (tgt := 7) (by decide) ?_
                  exact ih7 (h + 1) o3 (szD CL7 (upd (zD CL7) h (vp_nar .boolean 0))) o16 va17 (by omega) hM17 ⟨hO16.1, (hO16.2.trans (hO15.2.trans (hO12.2.trans hOL7.2)))⟩ ((((hfL7.trans hf12).trans hf15).trans hf16).trans hf17) (by omega) (due_hit2 hC7 c45) (by omega)
        · refine v_aload_n hX d_M_showHolders_22 rfl rfl ?_
          refine v_bipush (v := 62) hX d_M_showHolders_23 (by decide) ?_
          refine c_V hX 48 (rest := []) hl (c_M_show hML7 hOL7.1 62 (by omega)) ml_M_148 im_M_show se_M_show in_M cd_M_show rfl q_M_show ⟨(Nat.le_of_ble_eq_true rfl), (Nat.le_of_ble_eq_true rfl)⟩ hML7.1.1 hML7.1.2.1 hML7.1.2.2 rfl rfl rfl rfl (Nat.le_of_ble_eq_true rfl) d_M_showHolders_25 ⟨(Nat.le_of_ble_eq_true rfl), (Nat.le_of_ble_eq_true rfl)⟩ (fun rv d2 lo2 va18 kc ns hp => ?_)
          obtain ⟨rfl, rfl, rfl, rfl, _, o18, ⟨rfl, rfl, hs18⟩, hM18, hO18, hf18⟩ := hp
          show V X D CL A _ _ _ _ _ _ _ []
          refine v_aload_n hX d_M_showHolders_28 rfl rfl ?_
          refine v_bipush (v := 32) hX d_M_showHolders_29 (by decide) ?_
          refine c_V hX 48 (rest := []) hl (c_M_show hM18 hO18.1 32 (by omega)) ml_M_148 im_M_show se_M_show in_M cd_M_show rfl q_M_show ⟨(Nat.le_of_ble_eq_true rfl), (Nat.le_of_ble_eq_true rfl)⟩ hM18.1.1 hM18.1.2.1 hM18.1.2.2 rfl rfl rfl rfl (Nat.le_of_ble_eq_true rfl) d_M_showHolders_31 ⟨(Nat.le_of_ble_eq_true rfl), (Nat.le_of_ble_eq_true rfl)⟩ (fun rv d2 lo2 va19 kc ns hp => ?_)
          obtain ⟨rfl, rfl, rfl, rfl, _, o19, ⟨rfl, rfl, hs19⟩, hM19, hO19, hf19⟩ := hp
          show V X D CL A _ _ _ _ _ _ _ []
          refine v_goto hX d_M_showHolders_34 (tgt := 154) (by decide) ?_
          refine v_iinc (y := (nI (h + 1))) (lv' := [some (.ref (ob 48)), some (.int (nI n)), some (.int (nI (h + 1))), o3]) hX d_M_showHolders_154 rfl (nI_1 h) rfl ?_
          refine v_goto hX d_M_showHolders_157 (tgt := 7) (by decide) ?_
          exact ih7 (h + 1) o3 CL7 o19 va19 (by omega) hM19 ⟨hO19.1, (hO19.2.trans (hO18.2.trans hOL7.2))⟩ ((hfL7.trans hf18).trans hf19) (by omega) (due_miss2 hC7 (Or.inl (fun z => absurd (c19.symm.trans z) (by decide)))) (by omega)
  exact loop7 _ 0 none C (soSm O 0) va1 (Nat.lt_succ_self _) hM1 ⟨⟨hO.1, hO.2.1, hO.2.2.1, hO.2.2.2.1, (by have q9 := hO.2.2.2.2; first | omega | (show 0 ≤ 4300; omega))⟩, rfl⟩ (frM.rf.trans hf1) (Nat.zero_le _) (due0 C).symm (Nat.zero_le _)
