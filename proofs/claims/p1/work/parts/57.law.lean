set_option maxHeartbeats 4000000 in
set_option maxRecDepth 100000 in
theorem law_switch {p : Program} {l : Launch} {e : Env} {s : State} {m : MethodId} {below : List Frame} {meth : Method} {c : Code} {b : Nat} {sc : Nat → Int32} {D : va_G} {A : Nat → Prop} {cI cB cZ cJ cN : ClassId} {X : KX} (hXe : X = (p, l, e, room_1, s, m, #[Value.ref b], below, meth, c, lw_Z below #[Value.ref b] s)) (hX : OX X b_L_law 7 "ProsePagesLaw" TT D CL (TY cI cB cZ cJ cN) A room_1) (hA : ∀ q, A q → s.heap.size ≤ q) (hr : meth.sig.returnType = ret) (hs : va_X b 6 sc (xs X) (xs X).heap ∧ b < (xs X).heap.size ∧ ¬ A b) {loc : Nat → Nat} {val : Nat → va_E} (hv : ∀ k, Nat.ble (k + 1) 48 = true → val k = pcell cI cN loc k) (hm : ∀ k, (Nat.ble 48 k && Nat.ble (k + 1) 76) = true → val k = mcell cI cB cZ loc k) (ho : val 76 = .inl (cJ, 1, .inr (.inl (fun _ => 0)))) (hl : X.2.1 = l) {cells slots : Nat} {o5 o6 : Option Value} (hc : cells ≤ 100000) (hsl : slots ≤ 1000000) (htr : l.stackTraces = false) : V X D CL A (kd 77) loc val cells slots 33 [some (.ref b), some (.ref (loc 0)), some (.ref (loc 48)), some (.ref (loc 76)), some (.int 0), o5, o6] [] := by
  refine v_aload_n hX d_L_law_33 rfl rfl ?_
  refine v_iload hX d_L_law_34 rfl ?_
  refine v_sld hX hs (v := sc 0) (vpb (by decide)) (congrArg sc (by decide)) d_L_law_36 ?_
  refine v_bipush (v := 15) hX d_L_law_37 (by decide) ?_
  refine v_iand hX d_L_law_39 ?_
  by_cases hw : (sc 0 &&& 15).toInt < 0 ∨ 10 < (sc 0 &&& 15).toInt
  · refine v_tableOut hX d_L_law_40 (tgt := 574) hw (by decide) ?_
    exact law_end hXe hX hA hr hs (by omega) (by omega)
  · obtain ⟨i, hi, hy⟩ := sw_cases 10 hw
    match i, hi, hy with
    | 0, _, hy =>
      have e9 : sc 0 &&& 15 = 0 := i32_of hy (by decide)
      rw [e9]
      refine v_tableIn hX d_L_law_40 (tgt := 100) (by decide) (by decide) (off := 60) (by decide) (by decide) ?_
      rcases gB_or (sc 1) (sc 2) with hg | hg
      · exact law_0g hXe hX hA hr hs hv hm ho hl hc hsl htr hg
      · exact law_0b hXe hX hA hr hs hv hm ho hl hc hsl htr hg
    | 1, _, hy =>
      have e9 : sc 0 &&& 15 = 1 := i32_of hy (by decide)
      rw [e9]
      refine v_tableIn hX d_L_law_40 (tgt := 168) (by decide) (by decide) (off := 128) (by decide) (by decide) ?_
      exact law_1 hXe hX hA hr hs hv hm ho hl hc hsl htr
    | 2, _, hy =>
      have e9 : sc 0 &&& 15 = 2 := i32_of hy (by decide)
      rw [e9]
      refine v_tableIn hX d_L_law_40 (tgt := 181) (by decide) (by decide) (off := 141) (by decide) (by decide) ?_
      exact law_2b hXe hX hA hr hs hv hm ho hl hc hsl htr
    | 3, _, hy =>
      have e9 : sc 0 &&& 15 = 3 := i32_of hy (by decide)
      rw [e9]
      refine v_tableIn hX d_L_law_40 (tgt := 285) (by decide) (by decide) (off := 245) (by decide) (by decide) ?_
      exact law_3 hXe hX hA hr hs hv hm ho hl hc hsl htr
    | 4, _, hy =>
      have e9 : sc 0 &&& 15 = 4 := i32_of hy (by decide)
      rw [e9]
      refine v_tableIn hX d_L_law_40 (tgt := 296) (by decide) (by decide) (off := 256) (by decide) (by decide) ?_
      by_cases hg : sc 1 < 5 ∨ 40 < sc 1 ∨ sc 2 < 8 ∨ 60 < sc 2
      · exact law_4b hXe hX hA hr hs hv hm ho hl hc hsl htr hg
      · exact law_4g hXe hX hA hr hs hv hm ho hl hc hsl htr hg
    | 5, _, hy =>
      have e9 : sc 0 &&& 15 = 5 := i32_of hy (by decide)
      rw [e9]
      refine v_tableIn hX d_L_law_40 (tgt := 364) (by decide) (by decide) (off := 324) (by decide) (by decide) ?_
      exact law_5 hXe hX hA hr hs hv hm ho hl hc hsl htr
    | 6, _, hy =>
      have e9 : sc 0 &&& 15 = 6 := i32_of hy (by decide)
      rw [e9]
      refine v_tableIn hX d_L_law_40 (tgt := 413) (by decide) (by decide) (off := 373) (by decide) (by decide) ?_
      exact law_6 hXe hX hA hr hs hv hm ho hl hc hsl htr
    | 7, _, hy =>
      have e9 : sc 0 &&& 15 = 7 := i32_of hy (by decide)
      rw [e9]
      refine v_tableIn hX d_L_law_40 (tgt := 450) (by decide) (by decide) (off := 410) (by decide) (by decide) ?_
      exact law_7 hXe hX hA hr hs hv hm ho hl hc hsl htr
    | 8, _, hy =>
      have e9 : sc 0 &&& 15 = 8 := i32_of hy (by decide)
      rw [e9]
      refine v_tableIn hX d_L_law_40 (tgt := 487) (by decide) (by decide) (off := 447) (by decide) (by decide) ?_
      exact law_8 hXe hX hA hr hs hv hm ho hl hc hsl htr
    | 9, _, hy =>
      have e9 : sc 0 &&& 15 = 9 := i32_of hy (by decide)
      rw [e9]
      refine v_tableIn hX d_L_law_40 (tgt := 512) (by decide) (by decide) (off := 472) (by decide) (by decide) ?_
      exact law_9 hXe hX hA hr hs hv hm ho hl hc hsl htr
    | 10, _, hy =>
      have e9 : sc 0 &&& 15 = 10 := i32_of hy (by decide)
      rw [e9]
      refine v_tableIn hX d_L_law_40 (tgt := 549) (by decide) (by decide) (off := 509) (by decide) (by decide) ?_
      exact law_10 hXe hX hA hr hs hv hm ho hl hc hsl htr
    | i + 11, hi, _ => exact absurd hi (by omega)
set_option maxHeartbeats 4000000 in
set_option maxRecDepth 100000 in
theorem law_23 {p : Program} {l : Launch} {e : Env} {s : State} {m : MethodId} {below : List Frame} {meth : Method} {c : Code} {b : Nat} {sc : Nat → Int32} {D : va_G} {A : Nat → Prop} {cI cB cZ cJ cN : ClassId} {X : KX} (hXe : X = (p, l, e, room_1, s, m, #[Value.ref b], below, meth, c, lw_Z below #[Value.ref b] s)) (hX : OX X b_L_law 7 "ProsePagesLaw" TT D CL (TY cI cB cZ cJ cN) A room_1) (hA : ∀ q, A q → s.heap.size ≤ q) (hr : meth.sig.returnType = ret) {L : Nat} (hL : L ≤ 6) (hs : va_X b L sc (xs X) (xs X).heap ∧ b < (xs X).heap.size ∧ ¬ A b) {loc : Nat → Nat} {val : Nat → va_E} (hv : ∀ k, Nat.ble (k + 1) 48 = true → val k = pcell cI cN loc k) (hm : ∀ k, (Nat.ble 48 k && Nat.ble (k + 1) 76) = true → val k = mcell cI cB cZ loc k) (ho : val 76 = .inl (cJ, 1, .inr (.inl (fun _ => 0)))) (hl : X.2.1 = l) {cells slots : Nat} (hc : cells ≤ 100000) (hsl : slots ≤ 1000000) (htr : l.stackTraces = false) {a0 a48 a76 : Nat} (e0 : loc 0 = a0) (e48 : loc 48 = a48) (e76 : loc 76 = a76) : V X D CL A (kd 77) loc val cells slots 23 [some (.ref b), some (.ref a0), some (.ref a48), some (.ref a76), some (.int 0), none, none] [] := by
  subst e0
  subst e48
  subst e76
  refine v_iload hX d_L_law_23 rfl ?_
  refine v_aload_n hX d_L_law_25 rfl rfl ?_
  refine v_slen hX hs d_L_law_26 ?_
  refine v_bipush (v := 6) hX d_L_law_27 (by decide) ?_
  have h7 : L = 0 ∨ L = 1 ∨ L = 2 ∨ L = 3 ∨ L = 4 ∨ L = 5 ∨ L = 6 := by omega
  rcases h7 with rfl | rfl | rfl | rfl | rfl | rfl | rfl
  · refine v_isubE (v := (-6)) hX d_L_law_29 (by decide) ?_
    refine v_icmp_gt hX d_L_law_30 (tgt := 580) (by decide) (fun _ => ?_) (fun c => absurd (by decide) c)
    exact law_out hXe hX hA hr (by omega) (by omega)
  · refine v_isubE (v := (-5)) hX d_L_law_29 (by decide) ?_
    refine v_icmp_gt hX d_L_law_30 (tgt := 580) (by decide) (fun _ => ?_) (fun c => absurd (by decide) c)
    exact law_out hXe hX hA hr (by omega) (by omega)
  · refine v_isubE (v := (-4)) hX d_L_law_29 (by decide) ?_
    refine v_icmp_gt hX d_L_law_30 (tgt := 580) (by decide) (fun _ => ?_) (fun c => absurd (by decide) c)
    exact law_out hXe hX hA hr (by omega) (by omega)
  · refine v_isubE (v := (-3)) hX d_L_law_29 (by decide) ?_
    refine v_icmp_gt hX d_L_law_30 (tgt := 580) (by decide) (fun _ => ?_) (fun c => absurd (by decide) c)
    exact law_out hXe hX hA hr (by omega) (by omega)
  · refine v_isubE (v := (-2)) hX d_L_law_29 (by decide) ?_
    refine v_icmp_gt hX d_L_law_30 (tgt := 580) (by decide) (fun _ => ?_) (fun c => absurd (by decide) c)
    exact law_out hXe hX hA hr (by omega) (by omega)
  · refine v_isubE (v := (-1)) hX d_L_law_29 (by decide) ?_
    refine v_icmp_gt hX d_L_law_30 (tgt := 580) (by decide) (fun _ => ?_) (fun c => absurd (by decide) c)
    exact law_out hXe hX hA hr (by omega) (by omega)
  · refine v_isubE (v := 0) hX d_L_law_29 (by decide) ?_
    refine v_icmp_gt hX d_L_law_30 (tgt := 580) (by decide) (fun c => absurd c (by decide)) (fun _ => ?_)
    exact law_switch hXe hX hA hr hs hv hm ho hl hc hsl htr
set_option maxHeartbeats 4000000 in
set_option maxRecDepth 100000 in
theorem law_go {p : Program} {l : Launch} {e : Env} {s : State} {m : MethodId} {below : List Frame} {meth : Method} {c : Code} {b : Nat} {sc : Nat → Int32} {D : va_G} {A : Nat → Prop} {cI cB cZ cJ cN : ClassId} {X : KX} (hXe : X = (p, l, e, room_1, s, m, #[Value.ref b], below, meth, c, lw_Z below #[Value.ref b] s)) (hX : OX X b_L_law 7 "ProsePagesLaw" TT D CL (TY cI cB cZ cJ cN) A room_1) (hA : ∀ q, A q → s.heap.size ≤ q) (hr : meth.sig.returnType = ret) {L : Nat} (hL : L ≤ 6) (hs : va_X b L sc (xs X) (xs X).heap ∧ b < (xs X).heap.size ∧ ¬ A b) (hl : X.2.1 = l) (htr : l.stackTraces = false) {loc : Nat → Nat} {val : Nat → va_E} : V X D CL A (kd 0) loc val 0 0 0 [some (.ref b), none, none, none, none, none, none] [] := by
  refine v_new hX 0 (kd 1) (ci := 4) (fs := [.null, .null, .null, .null, .int 0, .int 0, .null, .int 0]) inT4 tyX4 tyX4_ok k_15 k_16 k_1 rfl (by decide) (Nat.le_of_ble_eq_true rfl) (Nat.le_of_ble_eq_true rfl) d_L_law_0 (kd_step 0) (kd_self 0) (fun q0 _ => ?_)
  refine v_dup hX d_L_law_3 rfl ?_
  refine c_I hX (rest := [.ref q0]) hl (c_P_init rfl) k_17 k_18 k_1 k_19 rfl q_P_init ⟨(Nat.le_of_ble_eq_true rfl), (Nat.le_of_ble_eq_true rfl)⟩ rfl rfl rfl (Nat.le_of_ble_eq_true rfl) d_L_law_4 ⟨(Nat.le_of_ble_eq_true rfl), (Nat.le_of_ble_eq_true rfl)⟩ (fun rv d2 lo2 va2 kc ns hp => ?_)
  obtain ⟨rfl, rfl, e0, hp48, rfl, rfl⟩ := hp
  replace e0 : lo2 0 = q0 := e0
  show V X D CL A _ _ _ _ _ _ _ [.ref q0]
  refine v_astore_n (lv' := [some (.ref b), some (.ref q0), none, none, none, none, none]) hX d_L_law_7 rfl (Nat.le_of_ble_eq_true rfl) rfl ?_
  refine v_new hX 48 (kd 49) (ci := 5) (fs := [.int 0, .null, .null, .null, .null, .null, .null, .null, .null, .int 0, .int 0, .int 0, .null, .null, .null, .null, .null, .null, .int 0, .int 0, .int 0, .int 0, .int 0, .int 0, .null, .null, .null, .null, .null, .null, .null, .null, .null, .null, .int 0, .null, .null, .null, .int 0, .int 0, .int 0, .int 0, .int 0, .int 0, .int 0]) inT5 tyX5 tyX5_ok k_574 k_575 k_6 rfl (by decide) (Nat.le_of_ble_eq_true rfl) (Nat.le_of_ble_eq_true rfl) d_L_law_8 (kd_step 48) (kd_self 48) (fun q48 _ => ?_)
  refine v_dup hX d_L_law_11 rfl ?_
  refine c_I hX (rest := [.ref q48]) hl (c_M_init rfl) k_576 k_577 k_6 k_578 rfl q_M_init ⟨(Nat.le_of_ble_eq_true rfl), (Nat.le_of_ble_eq_true rfl)⟩ rfl rfl rfl (Nat.le_of_ble_eq_true rfl) d_L_law_12 ⟨(Nat.le_of_ble_eq_true rfl), (Nat.le_of_ble_eq_true rfl)⟩ (fun rv d3 lo3 va3 kc ns hp => ?_)
  obtain ⟨rfl, rfl, e48, hlow, hm3, rfl, rfl⟩ := hp
  replace e48 : lo3 48 = q48 := e48
  have h48n : ∀ k, Nat.ble (k + 1) 48 = true → k ≠ 48 := fun k h z => by rw [z] at h; cases h
  have hlo : ∀ k, Nat.ble (k + 1) 48 = true → lo3 k = lo2 k := fun k h => (hlow k h).1.trans (va_up_ne _ _ (h48n k h))
  have hv3 : ∀ k, Nat.ble (k + 1) 48 = true → va3 k = pcell cI cN lo3 k := fun k h => (((hlow k h).2.trans (va_up_ne _ _ (h48n k h))).trans (hp48 k h)).trans (pcell_congr hlo k).symm
  show V X D CL A _ _ _ _ _ _ _ [.ref q48]
  refine v_astore_n (lv' := [some (.ref b), some (.ref q0), some (.ref q48), none, none, none, none]) hX d_L_law_15 rfl (Nat.le_of_ble_eq_true rfl) rfl ?_
  refine v_iconst (v := 1) hX d_L_law_16 (by decide) ?_
  refine v_newp hX 76 3 (kd 77) (N := 1) (ty := .long) (1, .inr (.inl (fun _ => 0))) rfl (fun _ => rfl) (fun _ h => h) k_867 rfl (by decide) (by decide) (Nat.le_of_ble_eq_true rfl) (Nat.le_of_ble_eq_true rfl) (Nat.le_of_ble_eq_true rfl) d_L_law_17 (kd_step 76) (kd_self 76) (fun q76 => ?_)
  refine v_astore_n (lv' := [some (.ref b), some (.ref q0), some (.ref q48), some (.ref q76), none, none, none]) hX d_L_law_19 rfl (Nat.le_of_ble_eq_true rfl) rfl ?_
  refine v_iconst (v := 0) hX d_L_law_20 (by decide) ?_
  refine v_istore (lv' := [some (.ref b), some (.ref q0), some (.ref q48), some (.ref q76), some (.int 0), none, none]) hX d_L_law_21 (Nat.le_of_ble_eq_true rfl) rfl ?_
  have n76 : ∀ k, Nat.ble (k + 1) 76 = true → k ≠ 76 := fun k h z => by rw [z] at h; cases h
  have b48 : ∀ k, Nat.ble (k + 1) 48 = true → Nat.ble (k + 1) 76 = true := fun k h => Nat.ble_eq_true_of_le (by have := Nat.le_of_ble_eq_true h; omega)
  have bm : ∀ k, (Nat.ble 48 k && Nat.ble (k + 1) 76) = true → Nat.ble (k + 1) 76 = true := fun k h => by rw [Bool.and_eq_true] at h; exact h.2
  refine law_23 (L := L) hXe hX hA hr hL hs (fun k h => ?_) (fun k h => ?_) kup_self hl (Nat.le_of_ble_eq_true rfl) (Nat.le_of_ble_eq_true rfl) htr (kup_ne (by decide) ((hlo 0 rfl).trans e0)) (kup_ne (by decide) e48) kup_self
  · exact (kup_ne (n76 k (b48 k h)) (hv3 k h)).trans (pcell_congr (fun j hj => va_up_ne _ _ (n76 j (b48 j hj))) k).symm
  · exact (kup_ne (n76 k (bm k h)) (hm3 k h)).trans (mcell_congr (fun j hj => va_up_ne _ _ (n76 j (bm j hj))) k).symm
