set_option maxHeartbeats 4000000 in
set_option maxRecDepth 100000 in
theorem law_1 {p : Program} {l : Launch} {e : Env} {s : State} {m : MethodId} {below : List Frame} {meth : Method} {c : Code} {b : Nat} {sc : Nat → Int32} {D : va_G} {A : Nat → Prop} {cI cB cZ cJ cN : ClassId} {X : KX} (hXe : X = (p, l, e, room_1, s, m, #[Value.ref b], below, meth, c, lw_Z below #[Value.ref b] s)) (hX : OX X b_L_law 7 "ProsePagesLaw" TT D CL (TY cI cB cZ cJ cN) A room_1) (hA : ∀ q, A q → s.heap.size ≤ q) (hr : meth.sig.returnType = ret) (hs : va_X b 6 sc (xs X) (xs X).heap ∧ b < (xs X).heap.size ∧ ¬ A b) {loc : Nat → Nat} {val : Nat → va_E} (hv : ∀ k, Nat.ble (k + 1) 48 = true → val k = pcell cI cN loc k) (hm : ∀ k, (Nat.ble 48 k && Nat.ble (k + 1) 76) = true → val k = mcell cI cB cZ loc k) (ho : val 76 = .inl (cJ, 1, .inr (.inl (fun _ => 0)))) (hl : X.2.1 = l) {cells slots : Nat} {o5 o6 : Option Value} (hc : cells ≤ 100000) (hsl : slots ≤ 1000000) (htr : l.stackTraces = false) : V X D CL A (kd 77) loc val cells slots 168 [some (.ref b), some (.ref (loc 0)), some (.ref (loc 48)), some (.ref (loc 76)), some (.int 0), o5, o6] [] := by
  refine v_aload_n hX d_L_law_168 rfl rfl ?_
  refine c_V hX 0 (rest := []) hl (c_P_end hv) k_200 k_201 k_202 k_1 k_203 rfl q_P_end ⟨(Nat.le_of_ble_eq_true rfl), (Nat.le_of_ble_eq_true rfl)⟩ (kd_b rfl) rfl (hv 0 rfl) rfl rfl rfl rfl (Nat.le_of_ble_eq_true rfl) d_L_law_169 ⟨by show _ + 100 ≤ 600002; omega, by show _ + 200000 ≤ 7302232; omega⟩ (fun rv d2 lo2 va2 kc ns hp => ?_)
  obtain ⟨rfl, hk, rfl, rfl⟩ := hp
  show V X D CL A _ _ _ _ _ _ _ [.int (-1)]
  have e48 : lo2 48 = loc 48 := (hk 48 rfl).2.1
  have hd2 : ∀ k, (Nat.ble 48 k && Nat.ble (k + 1) 77) = true → d2 k := fun k h => (hk k h).1
  have hm2 := keepM.hm hk.L hm
  have hM := c_M_end (l := l) (D := D) (A := A) (cI := cI) (cB := cB) (cZ := cZ) (cJ := cJ) (cN := cN) hd2 hm2
  rw [e48] at hM
  refine v_aload_n hX d_L_law_172 rfl rfl ?_
  refine c_V hX 48 (rest := [.int (-1)]) hl hM k_748 k_749 k_750 k_6 k_751 rfl q_M_end ⟨(Nat.le_of_ble_eq_true rfl), (Nat.le_of_ble_eq_true rfl)⟩ (hd2 48 rfl) e48 (hm2 48 rfl) rfl rfl rfl rfl (Nat.le_of_ble_eq_true rfl) d_L_law_173 ⟨by show _ + 100 ≤ 600002; omega, by show _ + 200000 ≤ 7302232; omega⟩ (fun rv d3 lo3 va3 kc ns hp => ?_)
  obtain ⟨rfl, -, -, rfl, rfl⟩ := hp
  show V X D CL A _ _ _ _ _ _ _ [.int (-1), .int (-1)]
  refine v_icmp_eq hX d_L_law_176 (tgt := 574) (by decide) (fun _ => ?_) (fun c => absurd rfl c)
  exact law_end hXe hX hA hr hs (by omega) (by omega)
set_option maxHeartbeats 4000000 in
set_option maxRecDepth 100000 in
theorem law_3 {p : Program} {l : Launch} {e : Env} {s : State} {m : MethodId} {below : List Frame} {meth : Method} {c : Code} {b : Nat} {sc : Nat → Int32} {D : va_G} {A : Nat → Prop} {cI cB cZ cJ cN : ClassId} {X : KX} (hXe : X = (p, l, e, room_1, s, m, #[Value.ref b], below, meth, c, lw_Z below #[Value.ref b] s)) (hX : OX X b_L_law 7 "ProsePagesLaw" TT D CL (TY cI cB cZ cJ cN) A room_1) (hA : ∀ q, A q → s.heap.size ≤ q) (hr : meth.sig.returnType = ret) (hs : va_X b 6 sc (xs X) (xs X).heap ∧ b < (xs X).heap.size ∧ ¬ A b) {loc : Nat → Nat} {val : Nat → va_E} (hv : ∀ k, Nat.ble (k + 1) 48 = true → val k = pcell cI cN loc k) (hm : ∀ k, (Nat.ble 48 k && Nat.ble (k + 1) 76) = true → val k = mcell cI cB cZ loc k) (ho : val 76 = .inl (cJ, 1, .inr (.inl (fun _ => 0)))) (hl : X.2.1 = l) {cells slots : Nat} {o5 o6 : Option Value} (hc : cells ≤ 100000) (hsl : slots ≤ 1000000) (htr : l.stackTraces = false) : V X D CL A (kd 77) loc val cells slots 285 [some (.ref b), some (.ref (loc 0)), some (.ref (loc 48)), some (.ref (loc 76)), some (.int 0), o5, o6] [] := by
  refine v_aload_n hX d_L_law_285 rfl rfl ?_
  refine c_V hX 0 (rest := []) hl (c_P_clear hv) k_204 k_205 k_206 k_1 k_207 rfl q_P_clear ⟨(Nat.le_of_ble_eq_true rfl), (Nat.le_of_ble_eq_true rfl)⟩ (kd_b rfl) rfl (hv 0 rfl) rfl rfl rfl rfl (Nat.le_of_ble_eq_true rfl) d_L_law_286 ⟨by show _ + 200 ≤ 600002; omega, by show _ + 400000 ≤ 7302232; omega⟩ (fun rv d2 lo2 va2 kc ns hp => ?_)
  obtain ⟨rfl, hk, rfl, rfl⟩ := hp
  show V X D CL A _ _ _ _ _ _ _ []
  have e48 : lo2 48 = loc 48 := (hk 48 rfl).2.1
  have hd2 : ∀ k, (Nat.ble 48 k && Nat.ble (k + 1) 77) = true → d2 k := fun k h => (hk k h).1
  have hm2 := keepM.hm hk.L hm
  have hM := c_M_clear (l := l) (D := D) (A := A) (cI := cI) (cB := cB) (cZ := cZ) (cJ := cJ) (cN := cN) hd2 hm2
  rw [e48] at hM
  refine v_aload_n hX d_L_law_289 rfl rfl ?_
  refine c_V hX 48 (rest := []) hl hM k_756 k_757 k_758 k_6 k_759 rfl q_M_clear ⟨(Nat.le_of_ble_eq_true rfl), (Nat.le_of_ble_eq_true rfl)⟩ (hd2 48 rfl) e48 (hm2 48 rfl) rfl rfl rfl rfl (Nat.le_of_ble_eq_true rfl) d_L_law_290 ⟨by show _ + 200 ≤ 600002; omega, by show _ + 400000 ≤ 7302232; omega⟩ (fun rv d3 lo3 va3 kc ns hp => ?_)
  obtain ⟨rfl, -, -, rfl, rfl⟩ := hp
  show V X D CL A _ _ _ _ _ _ _ []
  refine v_goto hX d_L_law_293 (tgt := 574) (by decide) ?_
  exact law_end hXe hX hA hr hs (by omega) (by omega)
set_option maxHeartbeats 4000000 in
set_option maxRecDepth 100000 in
theorem law_5 {p : Program} {l : Launch} {e : Env} {s : State} {m : MethodId} {below : List Frame} {meth : Method} {c : Code} {b : Nat} {sc : Nat → Int32} {D : va_G} {A : Nat → Prop} {cI cB cZ cJ cN : ClassId} {X : KX} (hXe : X = (p, l, e, room_1, s, m, #[Value.ref b], below, meth, c, lw_Z below #[Value.ref b] s)) (hX : OX X b_L_law 7 "ProsePagesLaw" TT D CL (TY cI cB cZ cJ cN) A room_1) (hA : ∀ q, A q → s.heap.size ≤ q) (hr : meth.sig.returnType = ret) (hs : va_X b 6 sc (xs X) (xs X).heap ∧ b < (xs X).heap.size ∧ ¬ A b) {loc : Nat → Nat} {val : Nat → va_E} (hv : ∀ k, Nat.ble (k + 1) 48 = true → val k = pcell cI cN loc k) (hm : ∀ k, (Nat.ble 48 k && Nat.ble (k + 1) 76) = true → val k = mcell cI cB cZ loc k) (ho : val 76 = .inl (cJ, 1, .inr (.inl (fun _ => 0)))) (hl : X.2.1 = l) {cells slots : Nat} {o5 o6 : Option Value} (hc : cells ≤ 100000) (hsl : slots ≤ 1000000) (htr : l.stackTraces = false) : V X D CL A (kd 77) loc val cells slots 364 [some (.ref b), some (.ref (loc 0)), some (.ref (loc 48)), some (.ref (loc 76)), some (.int 0), o5, o6] [] := by
  refine v_aload_n hX d_L_law_364 rfl rfl ?_
  refine v_aload_n hX d_L_law_365 rfl rfl ?_
  refine v_iload hX d_L_law_366 rfl ?_
  refine v_iconst (v := 1) hX d_L_law_368 (by decide) ?_
  refine v_iaddE (v := 1) hX d_L_law_369 (by decide) ?_
  refine v_sld hX hs (v := sc 1) (vpb (by decide)) (congrArg sc (by decide)) d_L_law_370 ?_
  refine v_aload_n hX d_L_law_371 rfl rfl ?_
  refine v_iload hX d_L_law_372 rfl ?_
  refine v_iconst (v := 2) hX d_L_law_374 (by decide) ?_
  refine v_iaddE (v := 2) hX d_L_law_375 (by decide) ?_
  refine v_sld hX hs (v := sc 2) (vpb (by decide)) (congrArg sc (by decide)) d_L_law_376 ?_
  refine v_aload_n hX d_L_law_377 rfl rfl ?_
  refine v_iload hX d_L_law_378 rfl ?_
  refine v_iconst (v := 3) hX d_L_law_380 (by decide) ?_
  refine v_iaddE (v := 3) hX d_L_law_381 (by decide) ?_
  refine v_sld hX hs (v := sc 3) (vpb (by decide)) (congrArg sc (by decide)) d_L_law_382 ?_
  refine c_V hX 0 (rest := []) hl (c_P_cell hv (sc 1) (sc 2) (sc 3)) k_212 k_213 k_214 k_1 k_215 rfl q_P_cell ⟨(Nat.le_of_ble_eq_true rfl), (Nat.le_of_ble_eq_true rfl)⟩ (kd_b rfl) rfl (hv 0 rfl) rfl rfl rfl rfl (Nat.le_of_ble_eq_true rfl) d_L_law_383 ⟨by show _ + 100 ≤ 600002; omega, by show _ + 200000 ≤ 7302232; omega⟩ (fun rv d2 lo2 va2 kc ns hp => ?_)
  obtain ⟨rfl, hk, rfl, rfl⟩ := hp
  show V X D CL A _ _ _ _ _ _ _ [.int (-1)]
  have e48 : lo2 48 = loc 48 := (hk 48 rfl).2.1
  have hd2 : ∀ k, (Nat.ble 48 k && Nat.ble (k + 1) 77) = true → d2 k := fun k h => (hk k h).1
  have hm2 := keepM.hm hk.L hm
  have hM := c_M_cell (l := l) (D := D) (A := A) (cI := cI) (cB := cB) (cZ := cZ) (cJ := cJ) (cN := cN) hd2 hm2 (sc 1) (sc 2) (sc 3)
  rw [e48] at hM
  refine v_aload_n hX d_L_law_386 rfl rfl ?_
  refine v_aload_n hX d_L_law_387 rfl rfl ?_
  refine v_iload hX d_L_law_388 rfl ?_
  refine v_iconst (v := 1) hX d_L_law_390 (by decide) ?_
  refine v_iaddE (v := 1) hX d_L_law_391 (by decide) ?_
  refine v_sld hX hs (v := sc 1) (vpb (by decide)) (congrArg sc (by decide)) d_L_law_392 ?_
  refine v_aload_n hX d_L_law_393 rfl rfl ?_
  refine v_iload hX d_L_law_394 rfl ?_
  refine v_iconst (v := 2) hX d_L_law_396 (by decide) ?_
  refine v_iaddE (v := 2) hX d_L_law_397 (by decide) ?_
  refine v_sld hX hs (v := sc 2) (vpb (by decide)) (congrArg sc (by decide)) d_L_law_398 ?_
  refine v_aload_n hX d_L_law_399 rfl rfl ?_
  refine v_iload hX d_L_law_400 rfl ?_
  refine v_iconst (v := 3) hX d_L_law_402 (by decide) ?_
  refine v_iaddE (v := 3) hX d_L_law_403 (by decide) ?_
  refine v_sld hX hs (v := sc 3) (vpb (by decide)) (congrArg sc (by decide)) d_L_law_404 ?_
  refine c_V hX 48 (rest := [.int (-1)]) hl hM k_843 k_844 k_845 k_6 k_846 rfl q_M_cell ⟨(Nat.le_of_ble_eq_true rfl), (Nat.le_of_ble_eq_true rfl)⟩ (hd2 48 rfl) e48 (hm2 48 rfl) rfl rfl rfl rfl (Nat.le_of_ble_eq_true rfl) d_L_law_405 ⟨by show _ + 100 ≤ 600002; omega, by show _ + 200000 ≤ 7302232; omega⟩ (fun rv d3 lo3 va3 kc ns hp => ?_)
  obtain ⟨rfl, -, -, rfl, rfl⟩ := hp
  show V X D CL A _ _ _ _ _ _ _ [.int (-1), .int (-1)]
  refine v_icmp_eq hX d_L_law_408 (tgt := 574) (by decide) (fun _ => ?_) (fun c => absurd rfl c)
  exact law_end hXe hX hA hr hs (by omega) (by omega)
set_option maxHeartbeats 4000000 in
set_option maxRecDepth 100000 in
theorem law_6 {p : Program} {l : Launch} {e : Env} {s : State} {m : MethodId} {below : List Frame} {meth : Method} {c : Code} {b : Nat} {sc : Nat → Int32} {D : va_G} {A : Nat → Prop} {cI cB cZ cJ cN : ClassId} {X : KX} (hXe : X = (p, l, e, room_1, s, m, #[Value.ref b], below, meth, c, lw_Z below #[Value.ref b] s)) (hX : OX X b_L_law 7 "ProsePagesLaw" TT D CL (TY cI cB cZ cJ cN) A room_1) (hA : ∀ q, A q → s.heap.size ≤ q) (hr : meth.sig.returnType = ret) (hs : va_X b 6 sc (xs X) (xs X).heap ∧ b < (xs X).heap.size ∧ ¬ A b) {loc : Nat → Nat} {val : Nat → va_E} (hv : ∀ k, Nat.ble (k + 1) 48 = true → val k = pcell cI cN loc k) (hm : ∀ k, (Nat.ble 48 k && Nat.ble (k + 1) 76) = true → val k = mcell cI cB cZ loc k) (ho : val 76 = .inl (cJ, 1, .inr (.inl (fun _ => 0)))) (hl : X.2.1 = l) {cells slots : Nat} {o5 o6 : Option Value} (hc : cells ≤ 100000) (hsl : slots ≤ 1000000) (htr : l.stackTraces = false) : V X D CL A (kd 77) loc val cells slots 413 [some (.ref b), some (.ref (loc 0)), some (.ref (loc 48)), some (.ref (loc 76)), some (.int 0), o5, o6] [] := by
  refine v_aload_n hX d_L_law_413 rfl rfl ?_
  refine v_aload_n hX d_L_law_414 rfl rfl ?_
  refine v_iload hX d_L_law_415 rfl ?_
  refine v_iconst (v := 1) hX d_L_law_417 (by decide) ?_
  refine v_iaddE (v := 1) hX d_L_law_418 (by decide) ?_
  refine v_sld hX hs (v := sc 1) (vpb (by decide)) (congrArg sc (by decide)) d_L_law_419 ?_
  refine v_aload_n hX d_L_law_420 rfl rfl ?_
  refine v_iload hX d_L_law_421 rfl ?_
  refine v_iconst (v := 2) hX d_L_law_423 (by decide) ?_
  refine v_iaddE (v := 2) hX d_L_law_424 (by decide) ?_
  refine v_sld hX hs (v := sc 2) (vpb (by decide)) (congrArg sc (by decide)) d_L_law_425 ?_
  refine c_V hX 0 (rest := []) hl (c_P_page hv (sc 1) (sc 2)) k_232 k_233 k_234 k_1 k_235 rfl q_P_page ⟨(Nat.le_of_ble_eq_true rfl), (Nat.le_of_ble_eq_true rfl)⟩ (kd_b rfl) rfl (hv 0 rfl) rfl rfl rfl rfl (Nat.le_of_ble_eq_true rfl) d_L_law_426 ⟨by show _ + 100 ≤ 600002; omega, by show _ + 200000 ≤ 7302232; omega⟩ (fun rv d2 lo2 va2 kc ns hp => ?_)
  obtain ⟨rfl, hk, rfl, rfl⟩ := hp
  show V X D CL A _ _ _ _ _ _ _ [.int (-1)]
  have e48 : lo2 48 = loc 48 := (hk 48 rfl).2.1
  have hd2 : ∀ k, (Nat.ble 48 k && Nat.ble (k + 1) 77) = true → d2 k := fun k h => (hk k h).1
  have hm2 := keepM.hm hk.L hm
  have hM := c_M_page (l := l) (D := D) (A := A) (cI := cI) (cB := cB) (cZ := cZ) (cJ := cJ) (cN := cN) hd2 hm2 (sc 1) (sc 2)
  rw [e48] at hM
  refine v_aload_n hX d_L_law_429 rfl rfl ?_
  refine v_aload_n hX d_L_law_430 rfl rfl ?_
  refine v_iload hX d_L_law_431 rfl ?_
  refine v_iconst (v := 1) hX d_L_law_433 (by decide) ?_
  refine v_iaddE (v := 1) hX d_L_law_434 (by decide) ?_
  refine v_sld hX hs (v := sc 1) (vpb (by decide)) (congrArg sc (by decide)) d_L_law_435 ?_
  refine v_aload_n hX d_L_law_436 rfl rfl ?_
  refine v_iload hX d_L_law_437 rfl ?_
  refine v_iconst (v := 2) hX d_L_law_439 (by decide) ?_
  refine v_iaddE (v := 2) hX d_L_law_440 (by decide) ?_
  refine v_sld hX hs (v := sc 2) (vpb (by decide)) (congrArg sc (by decide)) d_L_law_441 ?_
  refine c_V hX 48 (rest := [.int (-1)]) hl hM k_847 k_848 k_849 k_6 k_850 rfl q_M_page ⟨(Nat.le_of_ble_eq_true rfl), (Nat.le_of_ble_eq_true rfl)⟩ (hd2 48 rfl) e48 (hm2 48 rfl) rfl rfl rfl rfl (Nat.le_of_ble_eq_true rfl) d_L_law_442 ⟨by show _ + 100 ≤ 600002; omega, by show _ + 200000 ≤ 7302232; omega⟩ (fun rv d3 lo3 va3 kc ns hp => ?_)
  obtain ⟨rfl, -, -, rfl, rfl⟩ := hp
  show V X D CL A _ _ _ _ _ _ _ [.int (-1), .int (-1)]
  refine v_icmp_eq hX d_L_law_445 (tgt := 574) (by decide) (fun _ => ?_) (fun c => absurd rfl c)
  exact law_end hXe hX hA hr hs (by omega) (by omega)
set_option maxHeartbeats 4000000 in
set_option maxRecDepth 100000 in
theorem law_7 {p : Program} {l : Launch} {e : Env} {s : State} {m : MethodId} {below : List Frame} {meth : Method} {c : Code} {b : Nat} {sc : Nat → Int32} {D : va_G} {A : Nat → Prop} {cI cB cZ cJ cN : ClassId} {X : KX} (hXe : X = (p, l, e, room_1, s, m, #[Value.ref b], below, meth, c, lw_Z below #[Value.ref b] s)) (hX : OX X b_L_law 7 "ProsePagesLaw" TT D CL (TY cI cB cZ cJ cN) A room_1) (hA : ∀ q, A q → s.heap.size ≤ q) (hr : meth.sig.returnType = ret) (hs : va_X b 6 sc (xs X) (xs X).heap ∧ b < (xs X).heap.size ∧ ¬ A b) {loc : Nat → Nat} {val : Nat → va_E} (hv : ∀ k, Nat.ble (k + 1) 48 = true → val k = pcell cI cN loc k) (hm : ∀ k, (Nat.ble 48 k && Nat.ble (k + 1) 76) = true → val k = mcell cI cB cZ loc k) (ho : val 76 = .inl (cJ, 1, .inr (.inl (fun _ => 0)))) (hl : X.2.1 = l) {cells slots : Nat} {o5 o6 : Option Value} (hc : cells ≤ 100000) (hsl : slots ≤ 1000000) (htr : l.stackTraces = false) : V X D CL A (kd 77) loc val cells slots 450 [some (.ref b), some (.ref (loc 0)), some (.ref (loc 48)), some (.ref (loc 76)), some (.int 0), o5, o6] [] := by
  refine v_aload_n hX d_L_law_450 rfl rfl ?_
  refine v_aload_n hX d_L_law_451 rfl rfl ?_
  refine v_iload hX d_L_law_452 rfl ?_
  refine v_iconst (v := 1) hX d_L_law_454 (by decide) ?_
  refine v_iaddE (v := 1) hX d_L_law_455 (by decide) ?_
  refine v_sld hX hs (v := sc 1) (vpb (by decide)) (congrArg sc (by decide)) d_L_law_456 ?_
  refine v_aload_n hX d_L_law_457 rfl rfl ?_
  refine v_iload hX d_L_law_458 rfl ?_
  refine v_iconst (v := 2) hX d_L_law_460 (by decide) ?_
  refine v_iaddE (v := 2) hX d_L_law_461 (by decide) ?_
  refine v_sld hX hs (v := sc 2) (vpb (by decide)) (congrArg sc (by decide)) d_L_law_462 ?_
  refine c_V hX 0 (rest := []) hl (c_P_line hv (sc 1) (sc 2)) k_238 k_239 k_240 k_1 k_241 rfl q_P_line ⟨(Nat.le_of_ble_eq_true rfl), (Nat.le_of_ble_eq_true rfl)⟩ (kd_b rfl) rfl (hv 0 rfl) rfl rfl rfl rfl (Nat.le_of_ble_eq_true rfl) d_L_law_463 ⟨by show _ + 100 ≤ 600002; omega, by show _ + 200000 ≤ 7302232; omega⟩ (fun rv d2 lo2 va2 kc ns hp => ?_)
  obtain ⟨rfl, hk, rfl, rfl⟩ := hp
  show V X D CL A _ _ _ _ _ _ _ [.int (-1)]
  have e48 : lo2 48 = loc 48 := (hk 48 rfl).2.1
  have hd2 : ∀ k, (Nat.ble 48 k && Nat.ble (k + 1) 77) = true → d2 k := fun k h => (hk k h).1
  have hm2 := keepM.hm hk.L hm
  have hM := c_M_line (l := l) (D := D) (A := A) (cI := cI) (cB := cB) (cZ := cZ) (cJ := cJ) (cN := cN) hd2 hm2 (sc 1) (sc 2)
  rw [e48] at hM
  refine v_aload_n hX d_L_law_466 rfl rfl ?_
  refine v_aload_n hX d_L_law_467 rfl rfl ?_
  refine v_iload hX d_L_law_468 rfl ?_
  refine v_iconst (v := 1) hX d_L_law_470 (by decide) ?_
  refine v_iaddE (v := 1) hX d_L_law_471 (by decide) ?_
  refine v_sld hX hs (v := sc 1) (vpb (by decide)) (congrArg sc (by decide)) d_L_law_472 ?_
  refine v_aload_n hX d_L_law_473 rfl rfl ?_
  refine v_iload hX d_L_law_474 rfl ?_
  refine v_iconst (v := 2) hX d_L_law_476 (by decide) ?_
  refine v_iaddE (v := 2) hX d_L_law_477 (by decide) ?_
  refine v_sld hX hs (v := sc 2) (vpb (by decide)) (congrArg sc (by decide)) d_L_law_478 ?_
  refine c_V hX 48 (rest := [.int (-1)]) hl hM k_851 k_852 k_853 k_6 k_854 rfl q_M_line ⟨(Nat.le_of_ble_eq_true rfl), (Nat.le_of_ble_eq_true rfl)⟩ (hd2 48 rfl) e48 (hm2 48 rfl) rfl rfl rfl rfl (Nat.le_of_ble_eq_true rfl) d_L_law_479 ⟨by show _ + 100 ≤ 600002; omega, by show _ + 200000 ≤ 7302232; omega⟩ (fun rv d3 lo3 va3 kc ns hp => ?_)
  obtain ⟨rfl, -, -, rfl, rfl⟩ := hp
  show V X D CL A _ _ _ _ _ _ _ [.int (-1), .int (-1)]
  refine v_icmp_eq hX d_L_law_482 (tgt := 574) (by decide) (fun _ => ?_) (fun c => absurd rfl c)
  exact law_end hXe hX hA hr hs (by omega) (by omega)
set_option maxHeartbeats 4000000 in
set_option maxRecDepth 100000 in
theorem law_8 {p : Program} {l : Launch} {e : Env} {s : State} {m : MethodId} {below : List Frame} {meth : Method} {c : Code} {b : Nat} {sc : Nat → Int32} {D : va_G} {A : Nat → Prop} {cI cB cZ cJ cN : ClassId} {X : KX} (hXe : X = (p, l, e, room_1, s, m, #[Value.ref b], below, meth, c, lw_Z below #[Value.ref b] s)) (hX : OX X b_L_law 7 "ProsePagesLaw" TT D CL (TY cI cB cZ cJ cN) A room_1) (hA : ∀ q, A q → s.heap.size ≤ q) (hr : meth.sig.returnType = ret) (hs : va_X b 6 sc (xs X) (xs X).heap ∧ b < (xs X).heap.size ∧ ¬ A b) {loc : Nat → Nat} {val : Nat → va_E} (hv : ∀ k, Nat.ble (k + 1) 48 = true → val k = pcell cI cN loc k) (hm : ∀ k, (Nat.ble 48 k && Nat.ble (k + 1) 76) = true → val k = mcell cI cB cZ loc k) (ho : val 76 = .inl (cJ, 1, .inr (.inl (fun _ => 0)))) (hl : X.2.1 = l) {cells slots : Nat} {o5 o6 : Option Value} (hc : cells ≤ 100000) (hsl : slots ≤ 1000000) (htr : l.stackTraces = false) : V X D CL A (kd 77) loc val cells slots 487 [some (.ref b), some (.ref (loc 0)), some (.ref (loc 48)), some (.ref (loc 76)), some (.int 0), o5, o6] [] := by
  refine v_aload_n hX d_L_law_487 rfl rfl ?_
  refine v_aload_n hX d_L_law_488 rfl rfl ?_
  refine v_iload hX d_L_law_489 rfl ?_
  refine v_iconst (v := 1) hX d_L_law_491 (by decide) ?_
  refine v_iaddE (v := 1) hX d_L_law_492 (by decide) ?_
  refine v_sld hX hs (v := sc 1) (vpb (by decide)) (congrArg sc (by decide)) d_L_law_493 ?_
  refine c_V hX 0 (rest := []) hl (c_P_find_all hv (sc 1)) k_246 k_247 k_248 k_1 k_249 rfl q_P_find ⟨(Nat.le_of_ble_eq_true rfl), (Nat.le_of_ble_eq_true rfl)⟩ (kd_b rfl) rfl (hv 0 rfl) rfl rfl rfl rfl (Nat.le_of_ble_eq_true rfl) d_L_law_494 ⟨by show _ + 200 ≤ 600002; omega, by show _ + 400000 ≤ 7302232; omega⟩ (fun rv d2 lo2 va2 kc ns hp => ?_)
  obtain ⟨rfl, hk, rfl, rfl⟩ := hp
  show V X D CL A _ _ _ _ _ _ _ [.int (-1)]
  have e48 : lo2 48 = loc 48 := (hk 48 rfl).2.1
  have hd2 : ∀ k, (Nat.ble 48 k && Nat.ble (k + 1) 77) = true → d2 k := fun k h => (hk k h).1
  have hm2 := keepM.hm hk.L hm
  have hM := c_M_find (l := l) (D := D) (A := A) (cI := cI) (cB := cB) (cZ := cZ) (cJ := cJ) (cN := cN) hd2 hm2 (sc 1)
  rw [e48] at hM
  refine v_aload_n hX d_L_law_497 rfl rfl ?_
  refine v_aload_n hX d_L_law_498 rfl rfl ?_
  refine v_iload hX d_L_law_499 rfl ?_
  refine v_iconst (v := 1) hX d_L_law_501 (by decide) ?_
  refine v_iaddE (v := 1) hX d_L_law_502 (by decide) ?_
  refine v_sld hX hs (v := sc 1) (vpb (by decide)) (congrArg sc (by decide)) d_L_law_503 ?_
  refine c_V hX 48 (rest := [.int (-1)]) hl hM k_855 k_856 k_857 k_6 k_858 rfl q_M_find ⟨(Nat.le_of_ble_eq_true rfl), (Nat.le_of_ble_eq_true rfl)⟩ (hd2 48 rfl) e48 (hm2 48 rfl) rfl rfl rfl rfl (Nat.le_of_ble_eq_true rfl) d_L_law_504 ⟨by show _ + 100 ≤ 600002; omega, by show _ + 200000 ≤ 7302232; omega⟩ (fun rv d3 lo3 va3 kc ns hp => ?_)
  obtain ⟨rfl, -, -, rfl, rfl⟩ := hp
  show V X D CL A _ _ _ _ _ _ _ [.int (-1), .int (-1)]
  refine v_icmp_eq hX d_L_law_507 (tgt := 574) (by decide) (fun _ => ?_) (fun c => absurd rfl c)
  exact law_end hXe hX hA hr hs (by omega) (by omega)
set_option maxHeartbeats 4000000 in
set_option maxRecDepth 100000 in
theorem law_9 {p : Program} {l : Launch} {e : Env} {s : State} {m : MethodId} {below : List Frame} {meth : Method} {c : Code} {b : Nat} {sc : Nat → Int32} {D : va_G} {A : Nat → Prop} {cI cB cZ cJ cN : ClassId} {X : KX} (hXe : X = (p, l, e, room_1, s, m, #[Value.ref b], below, meth, c, lw_Z below #[Value.ref b] s)) (hX : OX X b_L_law 7 "ProsePagesLaw" TT D CL (TY cI cB cZ cJ cN) A room_1) (hA : ∀ q, A q → s.heap.size ≤ q) (hr : meth.sig.returnType = ret) (hs : va_X b 6 sc (xs X) (xs X).heap ∧ b < (xs X).heap.size ∧ ¬ A b) {loc : Nat → Nat} {val : Nat → va_E} (hv : ∀ k, Nat.ble (k + 1) 48 = true → val k = pcell cI cN loc k) (hm : ∀ k, (Nat.ble 48 k && Nat.ble (k + 1) 76) = true → val k = mcell cI cB cZ loc k) (ho : val 76 = .inl (cJ, 1, .inr (.inl (fun _ => 0)))) (hl : X.2.1 = l) {cells slots : Nat} {o5 o6 : Option Value} (hc : cells ≤ 100000) (hsl : slots ≤ 1000000) (htr : l.stackTraces = false) : V X D CL A (kd 77) loc val cells slots 512 [some (.ref b), some (.ref (loc 0)), some (.ref (loc 48)), some (.ref (loc 76)), some (.int 0), o5, o6] [] := by
  obtain ⟨v, hP9, hM9⟩ := b_node (l := l) (D := D) (A := A) (cI := cI) (cB := cB) (cZ := cZ) (cJ := cJ) (cN := cN) hv (sc 1) (sc 2)
  refine v_aload_n hX d_L_law_512 rfl rfl ?_
  refine v_aload_n hX d_L_law_513 rfl rfl ?_
  refine v_iload hX d_L_law_514 rfl ?_
  refine v_iconst (v := 1) hX d_L_law_516 (by decide) ?_
  refine v_iaddE (v := 1) hX d_L_law_517 (by decide) ?_
  refine v_sld hX hs (v := sc 1) (vpb (by decide)) (congrArg sc (by decide)) d_L_law_518 ?_
  refine v_aload_n hX d_L_law_519 rfl rfl ?_
  refine v_iload hX d_L_law_520 rfl ?_
  refine v_iconst (v := 2) hX d_L_law_522 (by decide) ?_
  refine v_iaddE (v := 2) hX d_L_law_523 (by decide) ?_
  refine v_sld hX hs (v := sc 2) (vpb (by decide)) (congrArg sc (by decide)) d_L_law_524 ?_
  refine c_V hX 0 (rest := []) hl (hP9) k_254 k_255 k_256 k_1 k_257 rfl q_P_node ⟨(Nat.le_of_ble_eq_true rfl), (Nat.le_of_ble_eq_true rfl)⟩ (kd_b rfl) rfl (hv 0 rfl) rfl rfl rfl rfl (Nat.le_of_ble_eq_true rfl) d_L_law_525 ⟨by show _ + 200 ≤ 600002; omega, by show _ + 400000 ≤ 7302232; omega⟩ (fun rv d2 lo2 va2 kc ns hp => ?_)
  obtain ⟨rfl, hk, rfl, rfl⟩ := hp
  show V X D CL A _ _ _ _ _ _ _ [.int v]
  have e48 : lo2 48 = loc 48 := (hk 48 rfl).2.1
  have hd2 : ∀ k, (Nat.ble 48 k && Nat.ble (k + 1) 77) = true → d2 k := fun k h => (hk k h).1
  have hm2 := keepM.hm hk.L hm
  have hM := hM9 hd2 hm2
  rw [e48] at hM
  refine v_aload_n hX d_L_law_528 rfl rfl ?_
  refine v_aload_n hX d_L_law_529 rfl rfl ?_
  refine v_iload hX d_L_law_530 rfl ?_
  refine v_iconst (v := 1) hX d_L_law_532 (by decide) ?_
  refine v_iaddE (v := 1) hX d_L_law_533 (by decide) ?_
  refine v_sld hX hs (v := sc 1) (vpb (by decide)) (congrArg sc (by decide)) d_L_law_534 ?_
  refine v_aload_n hX d_L_law_535 rfl rfl ?_
  refine v_iload hX d_L_law_536 rfl ?_
  refine v_iconst (v := 2) hX d_L_law_538 (by decide) ?_
  refine v_iaddE (v := 2) hX d_L_law_539 (by decide) ?_
  refine v_sld hX hs (v := sc 2) (vpb (by decide)) (congrArg sc (by decide)) d_L_law_540 ?_
  refine c_V hX 48 (rest := [.int v]) hl hM k_859 k_860 k_861 k_6 k_862 rfl q_M_node ⟨(Nat.le_of_ble_eq_true rfl), (Nat.le_of_ble_eq_true rfl)⟩ (hd2 48 rfl) e48 (hm2 48 rfl) rfl rfl rfl rfl (Nat.le_of_ble_eq_true rfl) d_L_law_541 ⟨by show _ + 100 ≤ 600002; omega, by show _ + 200000 ≤ 7302232; omega⟩ (fun rv d3 lo3 va3 kc ns hp => ?_)
  obtain ⟨rfl, -, -, rfl, rfl⟩ := hp
  show V X D CL A _ _ _ _ _ _ _ [.int v, .int v]
  refine v_icmp_eq hX d_L_law_544 (tgt := 574) (by decide) (fun _ => ?_) (fun c => absurd rfl c)
  exact law_end hXe hX hA hr hs (by omega) (by omega)
set_option maxHeartbeats 4000000 in
set_option maxRecDepth 100000 in
theorem law_10 {p : Program} {l : Launch} {e : Env} {s : State} {m : MethodId} {below : List Frame} {meth : Method} {c : Code} {b : Nat} {sc : Nat → Int32} {D : va_G} {A : Nat → Prop} {cI cB cZ cJ cN : ClassId} {X : KX} (hXe : X = (p, l, e, room_1, s, m, #[Value.ref b], below, meth, c, lw_Z below #[Value.ref b] s)) (hX : OX X b_L_law 7 "ProsePagesLaw" TT D CL (TY cI cB cZ cJ cN) A room_1) (hA : ∀ q, A q → s.heap.size ≤ q) (hr : meth.sig.returnType = ret) (hs : va_X b 6 sc (xs X) (xs X).heap ∧ b < (xs X).heap.size ∧ ¬ A b) {loc : Nat → Nat} {val : Nat → va_E} (hv : ∀ k, Nat.ble (k + 1) 48 = true → val k = pcell cI cN loc k) (hm : ∀ k, (Nat.ble 48 k && Nat.ble (k + 1) 76) = true → val k = mcell cI cB cZ loc k) (ho : val 76 = .inl (cJ, 1, .inr (.inl (fun _ => 0)))) (hl : X.2.1 = l) {cells slots : Nat} {o5 o6 : Option Value} (hc : cells ≤ 100000) (hsl : slots ≤ 1000000) (htr : l.stackTraces = false) : V X D CL A (kd 77) loc val cells slots 549 [some (.ref b), some (.ref (loc 0)), some (.ref (loc 48)), some (.ref (loc 76)), some (.int 0), o5, o6] [] := by
  obtain ⟨v, hP9, hM9⟩ := b_about (l := l) (D := D) (A := A) (cI := cI) (cB := cB) (cZ := cZ) (cJ := cJ) (cN := cN) hv (sc 1)
  refine v_aload_n hX d_L_law_549 rfl rfl ?_
  refine v_aload_n hX d_L_law_550 rfl rfl ?_
  refine v_iload hX d_L_law_551 rfl ?_
  refine v_iconst (v := 1) hX d_L_law_553 (by decide) ?_
  refine v_iaddE (v := 1) hX d_L_law_554 (by decide) ?_
  refine v_sld hX hs (v := sc 1) (vpb (by decide)) (congrArg sc (by decide)) d_L_law_555 ?_
  refine c_V hX 0 (rest := []) hl (hP9) k_258 k_259 k_260 k_1 k_261 rfl q_P_about ⟨(Nat.le_of_ble_eq_true rfl), (Nat.le_of_ble_eq_true rfl)⟩ (kd_b rfl) rfl (hv 0 rfl) rfl rfl rfl rfl (Nat.le_of_ble_eq_true rfl) d_L_law_556 ⟨by show _ + 100 ≤ 600002; omega, by show _ + 200000 ≤ 7302232; omega⟩ (fun rv d2 lo2 va2 kc ns hp => ?_)
  obtain ⟨rfl, hk, rfl, rfl⟩ := hp
  show V X D CL A _ _ _ _ _ _ _ [.int v]
  have e48 : lo2 48 = loc 48 := (hk 48 rfl).2.1
  have hd2 : ∀ k, (Nat.ble 48 k && Nat.ble (k + 1) 77) = true → d2 k := fun k h => (hk k h).1
  have hm2 := keepM.hm hk.L hm
  have hM := hM9 hd2 hm2
  rw [e48] at hM
  refine v_aload_n hX d_L_law_559 rfl rfl ?_
  refine v_aload_n hX d_L_law_560 rfl rfl ?_
  refine v_iload hX d_L_law_561 rfl ?_
  refine v_iconst (v := 1) hX d_L_law_563 (by decide) ?_
  refine v_iaddE (v := 1) hX d_L_law_564 (by decide) ?_
  refine v_sld hX hs (v := sc 1) (vpb (by decide)) (congrArg sc (by decide)) d_L_law_565 ?_
  refine c_V hX 48 (rest := [.int v]) hl hM k_863 k_864 k_865 k_6 k_866 rfl q_M_about ⟨(Nat.le_of_ble_eq_true rfl), (Nat.le_of_ble_eq_true rfl)⟩ (hd2 48 rfl) e48 (hm2 48 rfl) rfl rfl rfl rfl (Nat.le_of_ble_eq_true rfl) d_L_law_566 ⟨by show _ + 100 ≤ 600002; omega, by show _ + 200000 ≤ 7302232; omega⟩ (fun rv d3 lo3 va3 kc ns hp => ?_)
  obtain ⟨rfl, -, -, rfl, rfl⟩ := hp
  show V X D CL A _ _ _ _ _ _ _ [.int v, .int v]
  refine v_icmp_eq hX d_L_law_569 (tgt := 574) (by decide) (fun _ => ?_) (fun c => absurd rfl c)
  exact law_end hXe hX hA hr hs (by omega) (by omega)
