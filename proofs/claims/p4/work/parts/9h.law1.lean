/-- what follows a case of the law -/
abbrev KL9 (X : KX) (D : va_G) (A : Nat → Prop) (cI cB cZ cJ cN : ClassId) (b a0 a48 a76 ph i cells slots : Nat) : Prop := ∀ (dom2 : Nat → Prop) (loc2 : Nat → Nat) (val2 : Nat → va_E) (ph2 k2 s2 : Nat) (o5 o6 : Option Value), LW9 cI cB cZ cJ cN a0 a48 a76 ph2 dom2 loc2 val2 → (s2 + ph ≤ slots + ph2 + 40 ∧ 16 * k2 + ph ≤ 16 * cells + ph2 + 80) → V X D CL A dom2 loc2 val2 k2 s2 518 [some (.ref b), some (.ref a0), some (.ref a48), some (.ref a76), some (.int (nI i)), o5, o6] []
set_option maxHeartbeats 4000000 in
set_option maxRecDepth 100000 in
theorem law_cell {l : Launch} {X : KX} {D : va_G} {A : Nat → Prop} {cI cB cZ cJ cN : ClassId} {b L : Nat} {sc : Nat → Int32} {i cells slots a0 a48 a76 ph : Nat} {dom : Nat → Prop} {loc : Nat → Nat} {val : Nat → va_E} {o5 o6 : Option Value} (hX : OX X b_L_law 7 "ProsePagesLaw" TT D CL (TY cI cB cZ cJ cN) A room_1) (hl : X.2.1 = l) (htr : l.stackTraces = false) (hs : va_X b L sc (xs X) (xs X).heap ∧ b < (xs X).heap.size ∧ ¬ A b) (hL : L ≤ 3072) (hi : i + 6 ≤ L) (hW : LW9 cI cB cZ cJ cN a0 a48 a76 ph dom loc val) (hc : cells + 200 + (2663816 - ph) / 16 ≤ 601024) (hsl : slots + 700200 + (2663816 - ph) ≤ 7293034) (kk : KL9 X D A cI cB cZ cJ cN b a0 a48 a76 ph i cells slots) : V X D CL A dom loc val cells slots 308 [some (.ref b), some (.ref a0), some (.ref a48), some (.ref a76), some (.int (nI i)), o5, o6] [] := by
  obtain ⟨ob, td, ts, rs, sh, T, n, ha, ch, hp, C, M, O, ⟨⟨hI, hN, hD⟩, ⟨hT, hU, hF⟩, ⟨hha, hts, hz4, htl, hch⟩, ⟨hM, hO, hTM, hTX⟩, ⟨g76, l76, f76, v76⟩, hR⟩, ⟨rfl, rfl, rfl⟩, rfl⟩ := hW
  have hx : Phi rs ≤ 2663816 := hI.1.phi
  have hn3 := hN.1
  have htl3 : (rs 3).1 ≤ 4300 := by omega
  refine v_aload_n hX d_L_law_308 rfl rfl ?_
  refine v_aload_n hX d_L_law_309 rfl rfl ?_
  refine v_iload hX d_L_law_310 rfl ?_
  refine v_iconst (v := 1) hX d_L_law_312 (by decide) ?_
  refine v_iaddE (v := nI (i + 1)) hX d_L_law_313 (nI_add i 1) ?_
  refine v_snI hX hs (i := (i + 1)) (by omega) hL d_L_law_314 ?_
  refine v_aload_n hX d_L_law_315 rfl rfl ?_
  refine v_iload hX d_L_law_316 rfl ?_
  refine v_iconst (v := 2) hX d_L_law_318 (by decide) ?_
  refine v_iaddE (v := nI (i + 2)) hX d_L_law_319 (nI_add i 2) ?_
  refine v_snI hX hs (i := (i + 2)) (by omega) hL d_L_law_320 ?_
  refine v_aload_n hX d_L_law_321 rfl rfl ?_
  refine v_iload hX d_L_law_322 rfl ?_
  refine v_iconst (v := 3) hX d_L_law_324 (by decide) ?_
  refine v_iaddE (v := nI (i + 3)) hX d_L_law_325 (nI_add i 3) ?_
  refine v_snI hX hs (i := (i + 3)) (by omega) hL d_L_law_326 ?_
  refine c_V hX 0 (rest := []) hl (c_P_cell hI hN hD hU hha hts (sc ((i + 1))) (sc ((i + 2))) (sc ((i + 3)))) ml_L_53 im_P_cell se_P_cell in_P cd_P_cell rfl q_P_cell ⟨(Nat.le_of_ble_eq_true rfl), (Nat.le_of_ble_eq_true rfl)⟩ hD.1.1 hD.1.2.1 hD.1.2.2 rfl rfl rfl rfl (Nat.le_of_ble_eq_true rfl) d_L_law_327 ⟨by show _ + (120 + (2663816 - Phi rs) / 16) ≤ 601024; omega, by show _ + (700000 + (2663816 - Phi rs)) ≤ 7293034; omega⟩ (fun rv d2 lo2 va2 kc ns hp => ?_)
  obtain ⟨⟨v1, rfl⟩, rfl, rfl, rfl, rfl, rfl⟩ := hp
  show V X D CL A _ _ _ _ _ _ _ (.int v1 :: [])
  refine v_pop hX d_L_law_330 rfl ?_
  refine v_aload_n hX d_L_law_331 rfl rfl ?_
  refine v_aload_n hX d_L_law_332 rfl rfl ?_
  refine v_iload hX d_L_law_333 rfl ?_
  refine v_iconst (v := 1) hX d_L_law_335 (by decide) ?_
  refine v_iaddE (v := nI (i + 1)) hX d_L_law_336 (nI_add i 1) ?_
  refine v_snI hX hs (i := (i + 1)) (by omega) hL d_L_law_337 ?_
  refine v_aload_n hX d_L_law_338 rfl rfl ?_
  refine v_iload hX d_L_law_339 rfl ?_
  refine v_iconst (v := 2) hX d_L_law_341 (by decide) ?_
  refine v_iaddE (v := nI (i + 2)) hX d_L_law_342 (nI_add i 2) ?_
  refine v_snI hX hs (i := (i + 2)) (by omega) hL d_L_law_343 ?_
  refine v_aload_n hX d_L_law_344 rfl rfl ?_
  refine v_iload hX d_L_law_345 rfl ?_
  refine v_iconst (v := 3) hX d_L_law_347 (by decide) ?_
  refine v_iaddE (v := nI (i + 3)) hX d_L_law_348 (nI_add i 3) ?_
  refine v_snI hX hs (i := (i + 3)) (by omega) hL d_L_law_349 ?_
  refine c_V hX 48 (rest := []) hl (c_M_cell hM hO (sc ((i + 1))) (sc ((i + 2))) (sc ((i + 3))) hTX.2.1) ml_L_57 im_M_cell se_M_cell in_M cd_M_cell rfl q_M_cell ⟨(Nat.le_of_ble_eq_true rfl), (Nat.le_of_ble_eq_true rfl)⟩ hM.1.1 hM.1.2.1 hM.1.2.2 rfl rfl rfl rfl (Nat.le_of_ble_eq_true rfl) d_L_law_350 ⟨by show _ + 0 ≤ 601024; omega, by show _ + 0 ≤ 7293034; omega⟩ (fun rv d2 lo2 va2 kc ns hp => ?_)
  obtain ⟨rfl, rfl, rfl, rfl, _, o2, ⟨⟨v2, rfl⟩, rfl⟩, hM2, hO2, hf2⟩ := hp
  show V X D CL A _ _ _ _ _ _ _ (.int v2 :: [])
  refine v_pop hX d_L_law_353 rfl ?_
  refine v_goto hX d_L_law_354 (tgt := 518) (by decide) ?_
  exact kk _ _ _ _ _ _ _ _ ⟨ob, td, ts, rs, sh, T, n, ha, ch, hp, C, M, o2, ⟨⟨(hI.frM hf2), (hN.frM hf2), (hD.frM hf2)⟩, ⟨hT, hU, hF⟩, ⟨hha, hts, hz4, htl, hch⟩, ⟨hM2, hO2.1, hTM, hTX⟩, ⟨g76, l76, _, ((hf2 76 (by omega)).trans v76)⟩, hR⟩, ⟨rfl, rfl, rfl⟩, rfl⟩ ⟨by omega, by omega⟩
set_option maxHeartbeats 4000000 in
set_option maxRecDepth 100000 in
theorem law_page {l : Launch} {X : KX} {D : va_G} {A : Nat → Prop} {cI cB cZ cJ cN : ClassId} {b L : Nat} {sc : Nat → Int32} {i cells slots a0 a48 a76 ph : Nat} {dom : Nat → Prop} {loc : Nat → Nat} {val : Nat → va_E} {o5 o6 : Option Value} (hX : OX X b_L_law 7 "ProsePagesLaw" TT D CL (TY cI cB cZ cJ cN) A room_1) (hl : X.2.1 = l) (htr : l.stackTraces = false) (hs : va_X b L sc (xs X) (xs X).heap ∧ b < (xs X).heap.size ∧ ¬ A b) (hL : L ≤ 3072) (hi : i + 6 ≤ L) (hW : LW9 cI cB cZ cJ cN a0 a48 a76 ph dom loc val) (hc : cells + 200 + (2663816 - ph) / 16 ≤ 601024) (hsl : slots + 700200 + (2663816 - ph) ≤ 7293034) (kk : KL9 X D A cI cB cZ cJ cN b a0 a48 a76 ph i cells slots) : V X D CL A dom loc val cells slots 357 [some (.ref b), some (.ref a0), some (.ref a48), some (.ref a76), some (.int (nI i)), o5, o6] [] := by
  obtain ⟨ob, td, ts, rs, sh, T, n, ha, ch, hp, C, M, O, ⟨⟨hI, hN, hD⟩, ⟨hT, hU, hF⟩, ⟨hha, hts, hz4, htl, hch⟩, ⟨hM, hO, hTM, hTX⟩, ⟨g76, l76, f76, v76⟩, hR⟩, ⟨rfl, rfl, rfl⟩, rfl⟩ := hW
  have hx : Phi rs ≤ 2663816 := hI.1.phi
  have hn3 := hN.1
  have htl3 : (rs 3).1 ≤ 4300 := by omega
  refine v_aload_n hX d_L_law_357 rfl rfl ?_
  refine v_aload_n hX d_L_law_358 rfl rfl ?_
  refine v_iload hX d_L_law_359 rfl ?_
  refine v_iconst (v := 1) hX d_L_law_361 (by decide) ?_
  refine v_iaddE (v := nI (i + 1)) hX d_L_law_362 (nI_add i 1) ?_
  refine v_snI hX hs (i := (i + 1)) (by omega) hL d_L_law_363 ?_
  refine v_aload_n hX d_L_law_364 rfl rfl ?_
  refine v_iload hX d_L_law_365 rfl ?_
  refine v_iconst (v := 2) hX d_L_law_367 (by decide) ?_
  refine v_iaddE (v := nI (i + 2)) hX d_L_law_368 (nI_add i 2) ?_
  refine v_snI hX hs (i := (i + 2)) (by omega) hL d_L_law_369 ?_
  refine c_V hX 0 (rest := []) hl (c_P_page hI hN hD hU hha hts (sc ((i + 1))) (sc ((i + 2)))) ml_L_58 im_P_page se_P_page in_P cd_P_page rfl q_P_page ⟨(Nat.le_of_ble_eq_true rfl), (Nat.le_of_ble_eq_true rfl)⟩ hD.1.1 hD.1.2.1 hD.1.2.2 rfl rfl rfl rfl (Nat.le_of_ble_eq_true rfl) d_L_law_370 ⟨by show _ + (120 + (2663816 - Phi rs) / 16) ≤ 601024; omega, by show _ + (700000 + (2663816 - Phi rs)) ≤ 7293034; omega⟩ (fun rv d2 lo2 va2 kc ns hp => ?_)
  obtain ⟨⟨v1, rfl⟩, rfl, rfl, rfl, rfl, rfl⟩ := hp
  show V X D CL A _ _ _ _ _ _ _ (.int v1 :: [])
  refine v_pop hX d_L_law_373 rfl ?_
  refine v_aload_n hX d_L_law_374 rfl rfl ?_
  refine v_aload_n hX d_L_law_375 rfl rfl ?_
  refine v_iload hX d_L_law_376 rfl ?_
  refine v_iconst (v := 1) hX d_L_law_378 (by decide) ?_
  refine v_iaddE (v := nI (i + 1)) hX d_L_law_379 (nI_add i 1) ?_
  refine v_snI hX hs (i := (i + 1)) (by omega) hL d_L_law_380 ?_
  refine v_aload_n hX d_L_law_381 rfl rfl ?_
  refine v_iload hX d_L_law_382 rfl ?_
  refine v_iconst (v := 2) hX d_L_law_384 (by decide) ?_
  refine v_iaddE (v := nI (i + 2)) hX d_L_law_385 (nI_add i 2) ?_
  refine v_snI hX hs (i := (i + 2)) (by omega) hL d_L_law_386 ?_
  refine c_V hX 48 (rest := []) hl (c_M_page hM hO (sc ((i + 1))) (sc ((i + 2))) ) ml_L_61 im_M_page se_M_page in_M cd_M_page rfl q_M_page ⟨(Nat.le_of_ble_eq_true rfl), (Nat.le_of_ble_eq_true rfl)⟩ hM.1.1 hM.1.2.1 hM.1.2.2 rfl rfl rfl rfl (Nat.le_of_ble_eq_true rfl) d_L_law_387 ⟨by show _ + 0 ≤ 601024; omega, by show _ + 0 ≤ 7293034; omega⟩ (fun rv d2 lo2 va2 kc ns hp => ?_)
  obtain ⟨rfl, rfl, rfl, rfl, _, o2, ⟨⟨v2, rfl⟩, rfl⟩, hM2, hO2, hf2⟩ := hp
  show V X D CL A _ _ _ _ _ _ _ (.int v2 :: [])
  refine v_pop hX d_L_law_390 rfl ?_
  refine v_goto hX d_L_law_391 (tgt := 518) (by decide) ?_
  exact kk _ _ _ _ _ _ _ _ ⟨ob, td, ts, rs, sh, T, n, ha, ch, hp, C, M, o2, ⟨⟨(hI.frM hf2), (hN.frM hf2), (hD.frM hf2)⟩, ⟨hT, hU, hF⟩, ⟨hha, hts, hz4, htl, hch⟩, ⟨hM2, hO2.1, hTM, hTX⟩, ⟨g76, l76, _, ((hf2 76 (by omega)).trans v76)⟩, hR⟩, ⟨rfl, rfl, rfl⟩, rfl⟩ ⟨by omega, by omega⟩
set_option maxHeartbeats 4000000 in
set_option maxRecDepth 100000 in
theorem law_line {l : Launch} {X : KX} {D : va_G} {A : Nat → Prop} {cI cB cZ cJ cN : ClassId} {b L : Nat} {sc : Nat → Int32} {i cells slots a0 a48 a76 ph : Nat} {dom : Nat → Prop} {loc : Nat → Nat} {val : Nat → va_E} {o5 o6 : Option Value} (hX : OX X b_L_law 7 "ProsePagesLaw" TT D CL (TY cI cB cZ cJ cN) A room_1) (hl : X.2.1 = l) (htr : l.stackTraces = false) (hs : va_X b L sc (xs X) (xs X).heap ∧ b < (xs X).heap.size ∧ ¬ A b) (hL : L ≤ 3072) (hi : i + 6 ≤ L) (hW : LW9 cI cB cZ cJ cN a0 a48 a76 ph dom loc val) (hc : cells + 200 + (2663816 - ph) / 16 ≤ 601024) (hsl : slots + 700200 + (2663816 - ph) ≤ 7293034) (kk : KL9 X D A cI cB cZ cJ cN b a0 a48 a76 ph i cells slots) : V X D CL A dom loc val cells slots 394 [some (.ref b), some (.ref a0), some (.ref a48), some (.ref a76), some (.int (nI i)), o5, o6] [] := by
  obtain ⟨ob, td, ts, rs, sh, T, n, ha, ch, hp, C, M, O, ⟨⟨hI, hN, hD⟩, ⟨hT, hU, hF⟩, ⟨hha, hts, hz4, htl, hch⟩, ⟨hM, hO, hTM, hTX⟩, ⟨g76, l76, f76, v76⟩, hR⟩, ⟨rfl, rfl, rfl⟩, rfl⟩ := hW
  have hx : Phi rs ≤ 2663816 := hI.1.phi
  have hn3 := hN.1
  have htl3 : (rs 3).1 ≤ 4300 := by omega
  refine v_aload_n hX d_L_law_394 rfl rfl ?_
  refine v_aload_n hX d_L_law_395 rfl rfl ?_
  refine v_iload hX d_L_law_396 rfl ?_
  refine v_iconst (v := 1) hX d_L_law_398 (by decide) ?_
  refine v_iaddE (v := nI (i + 1)) hX d_L_law_399 (nI_add i 1) ?_
  refine v_snI hX hs (i := (i + 1)) (by omega) hL d_L_law_400 ?_
  refine v_aload_n hX d_L_law_401 rfl rfl ?_
  refine v_iload hX d_L_law_402 rfl ?_
  refine v_iconst (v := 2) hX d_L_law_404 (by decide) ?_
  refine v_iaddE (v := nI (i + 2)) hX d_L_law_405 (nI_add i 2) ?_
  refine v_snI hX hs (i := (i + 2)) (by omega) hL d_L_law_406 ?_
  refine c_V hX 0 (rest := []) hl (c_P_line hI hN hD hU hha hts (sc ((i + 1))) (sc ((i + 2)))) ml_L_62 im_P_line se_P_line in_P cd_P_line rfl q_P_line ⟨(Nat.le_of_ble_eq_true rfl), (Nat.le_of_ble_eq_true rfl)⟩ hD.1.1 hD.1.2.1 hD.1.2.2 rfl rfl rfl rfl (Nat.le_of_ble_eq_true rfl) d_L_law_407 ⟨by show _ + (120 + (2663816 - Phi rs) / 16) ≤ 601024; omega, by show _ + (700000 + (2663816 - Phi rs)) ≤ 7293034; omega⟩ (fun rv d2 lo2 va2 kc ns hp => ?_)
  obtain ⟨⟨v1, rfl⟩, rfl, rfl, rfl, rfl, rfl⟩ := hp
  show V X D CL A _ _ _ _ _ _ _ (.int v1 :: [])
  refine v_pop hX d_L_law_410 rfl ?_
  refine v_aload_n hX d_L_law_411 rfl rfl ?_
  refine v_aload_n hX d_L_law_412 rfl rfl ?_
  refine v_iload hX d_L_law_413 rfl ?_
  refine v_iconst (v := 1) hX d_L_law_415 (by decide) ?_
  refine v_iaddE (v := nI (i + 1)) hX d_L_law_416 (nI_add i 1) ?_
  refine v_snI hX hs (i := (i + 1)) (by omega) hL d_L_law_417 ?_
  refine v_aload_n hX d_L_law_418 rfl rfl ?_
  refine v_iload hX d_L_law_419 rfl ?_
  refine v_iconst (v := 2) hX d_L_law_421 (by decide) ?_
  refine v_iaddE (v := nI (i + 2)) hX d_L_law_422 (nI_add i 2) ?_
  refine v_snI hX hs (i := (i + 2)) (by omega) hL d_L_law_423 ?_
  refine c_V hX 48 (rest := []) hl (c_M_line hM hO (sc ((i + 1))) (sc ((i + 2))) ) ml_L_65 im_M_line se_M_line in_M cd_M_line rfl q_M_line ⟨(Nat.le_of_ble_eq_true rfl), (Nat.le_of_ble_eq_true rfl)⟩ hM.1.1 hM.1.2.1 hM.1.2.2 rfl rfl rfl rfl (Nat.le_of_ble_eq_true rfl) d_L_law_424 ⟨by show _ + 0 ≤ 601024; omega, by show _ + 0 ≤ 7293034; omega⟩ (fun rv d2 lo2 va2 kc ns hp => ?_)
  obtain ⟨rfl, rfl, rfl, rfl, _, o2, ⟨⟨v2, rfl⟩, rfl⟩, hM2, hO2, hf2⟩ := hp
  show V X D CL A _ _ _ _ _ _ _ (.int v2 :: [])
  refine v_pop hX d_L_law_427 rfl ?_
  refine v_goto hX d_L_law_428 (tgt := 518) (by decide) ?_
  exact kk _ _ _ _ _ _ _ _ ⟨ob, td, ts, rs, sh, T, n, ha, ch, hp, C, M, o2, ⟨⟨(hI.frM hf2), (hN.frM hf2), (hD.frM hf2)⟩, ⟨hT, hU, hF⟩, ⟨hha, hts, hz4, htl, hch⟩, ⟨hM2, hO2.1, hTM, hTX⟩, ⟨g76, l76, _, ((hf2 76 (by omega)).trans v76)⟩, hR⟩, ⟨rfl, rfl, rfl⟩, rfl⟩ ⟨by omega, by omega⟩
set_option maxHeartbeats 4000000 in
set_option maxRecDepth 100000 in
theorem law_find {l : Launch} {X : KX} {D : va_G} {A : Nat → Prop} {cI cB cZ cJ cN : ClassId} {b L : Nat} {sc : Nat → Int32} {i cells slots a0 a48 a76 ph : Nat} {dom : Nat → Prop} {loc : Nat → Nat} {val : Nat → va_E} {o5 o6 : Option Value} (hX : OX X b_L_law 7 "ProsePagesLaw" TT D CL (TY cI cB cZ cJ cN) A room_1) (hl : X.2.1 = l) (htr : l.stackTraces = false) (hs : va_X b L sc (xs X) (xs X).heap ∧ b < (xs X).heap.size ∧ ¬ A b) (hL : L ≤ 3072) (hi : i + 6 ≤ L) (hW : LW9 cI cB cZ cJ cN a0 a48 a76 ph dom loc val) (hc : cells + 200 + (2663816 - ph) / 16 ≤ 601024) (hsl : slots + 700200 + (2663816 - ph) ≤ 7293034) (kk : KL9 X D A cI cB cZ cJ cN b a0 a48 a76 ph i cells slots) : V X D CL A dom loc val cells slots 431 [some (.ref b), some (.ref a0), some (.ref a48), some (.ref a76), some (.int (nI i)), o5, o6] [] := by
  obtain ⟨ob, td, ts, rs, sh, T, n, ha, ch, hp, C, M, O, ⟨⟨hI, hN, hD⟩, ⟨hT, hU, hF⟩, ⟨hha, hts, hz4, htl, hch⟩, ⟨hM, hO, hTM, hTX⟩, ⟨g76, l76, f76, v76⟩, hR⟩, ⟨rfl, rfl, rfl⟩, rfl⟩ := hW
  have hx : Phi rs ≤ 2663816 := hI.1.phi
  have hn3 := hN.1
  have htl3 : (rs 3).1 ≤ 4300 := by omega
  refine v_aload_n hX d_L_law_431 rfl rfl ?_
  refine v_aload_n hX d_L_law_432 rfl rfl ?_
  refine v_iload hX d_L_law_433 rfl ?_
  refine v_iconst (v := 1) hX d_L_law_435 (by decide) ?_
  refine v_iaddE (v := nI (i + 1)) hX d_L_law_436 (nI_add i 1) ?_
  refine v_snI hX hs (i := (i + 1)) (by omega) hL d_L_law_437 ?_
  refine c_V hX 0 (rest := []) hl (c_P_find hI hN hD hU hha hts (sc ((i + 1)))) ml_L_66 im_P_find se_P_find in_P cd_P_find rfl q_P_find ⟨(Nat.le_of_ble_eq_true rfl), (Nat.le_of_ble_eq_true rfl)⟩ hD.1.1 hD.1.2.1 hD.1.2.2 rfl rfl rfl rfl (Nat.le_of_ble_eq_true rfl) d_L_law_438 ⟨by show _ + (120 + (2663816 - Phi rs) / 16) ≤ 601024; omega, by show _ + (700000 + (2663816 - Phi rs)) ≤ 7293034; omega⟩ (fun rv d2 lo2 va2 kc ns hp => ?_)
  obtain ⟨⟨v1, rfl⟩, rfl, rfl, rfl, rfl, rfl⟩ := hp
  show V X D CL A _ _ _ _ _ _ _ (.int v1 :: [])
  refine v_pop hX d_L_law_441 rfl ?_
  refine v_aload_n hX d_L_law_442 rfl rfl ?_
  refine v_aload_n hX d_L_law_443 rfl rfl ?_
  refine v_iload hX d_L_law_444 rfl ?_
  refine v_iconst (v := 1) hX d_L_law_446 (by decide) ?_
  refine v_iaddE (v := nI (i + 1)) hX d_L_law_447 (nI_add i 1) ?_
  refine v_snI hX hs (i := (i + 1)) (by omega) hL d_L_law_448 ?_
  refine c_V hX 48 (rest := []) hl (c_M_find hM hO (sc ((i + 1))) ) ml_L_70 im_M_find se_M_find in_M cd_M_find rfl q_M_find ⟨(Nat.le_of_ble_eq_true rfl), (Nat.le_of_ble_eq_true rfl)⟩ hM.1.1 hM.1.2.1 hM.1.2.2 rfl rfl rfl rfl (Nat.le_of_ble_eq_true rfl) d_L_law_449 ⟨by show _ + 0 ≤ 601024; omega, by show _ + 0 ≤ 7293034; omega⟩ (fun rv d2 lo2 va2 kc ns hp => ?_)
  obtain ⟨rfl, rfl, rfl, rfl, _, o2, ⟨⟨v2, rfl⟩, rfl⟩, hM2, hO2, hf2⟩ := hp
  show V X D CL A _ _ _ _ _ _ _ (.int v2 :: [])
  refine v_pop hX d_L_law_452 rfl ?_
  refine v_goto hX d_L_law_453 (tgt := 518) (by decide) ?_
  exact kk _ _ _ _ _ _ _ _ ⟨ob, td, ts, rs, sh, T, n, ha, ch, hp, C, M, o2, ⟨⟨(hI.frM hf2), (hN.frM hf2), (hD.frM hf2)⟩, ⟨hT, hU, hF⟩, ⟨hha, hts, hz4, htl, hch⟩, ⟨hM2, hO2.1, hTM, hTX⟩, ⟨g76, l76, _, ((hf2 76 (by omega)).trans v76)⟩, hR⟩, ⟨rfl, rfl, rfl⟩, rfl⟩ ⟨by omega, by omega⟩
set_option maxHeartbeats 4000000 in
set_option maxRecDepth 100000 in
theorem law_node {l : Launch} {X : KX} {D : va_G} {A : Nat → Prop} {cI cB cZ cJ cN : ClassId} {b L : Nat} {sc : Nat → Int32} {i cells slots a0 a48 a76 ph : Nat} {dom : Nat → Prop} {loc : Nat → Nat} {val : Nat → va_E} {o5 o6 : Option Value} (hX : OX X b_L_law 7 "ProsePagesLaw" TT D CL (TY cI cB cZ cJ cN) A room_1) (hl : X.2.1 = l) (htr : l.stackTraces = false) (hs : va_X b L sc (xs X) (xs X).heap ∧ b < (xs X).heap.size ∧ ¬ A b) (hL : L ≤ 3072) (hi : i + 6 ≤ L) (hW : LW9 cI cB cZ cJ cN a0 a48 a76 ph dom loc val) (hc : cells + 200 + (2663816 - ph) / 16 ≤ 601024) (hsl : slots + 700200 + (2663816 - ph) ≤ 7293034) (kk : KL9 X D A cI cB cZ cJ cN b a0 a48 a76 ph i cells slots) : V X D CL A dom loc val cells slots 456 [some (.ref b), some (.ref a0), some (.ref a48), some (.ref a76), some (.int (nI i)), o5, o6] [] := by
  obtain ⟨ob, td, ts, rs, sh, T, n, ha, ch, hp, C, M, O, ⟨⟨hI, hN, hD⟩, ⟨hT, hU, hF⟩, ⟨hha, hts, hz4, htl, hch⟩, ⟨hM, hO, hTM, hTX⟩, ⟨g76, l76, f76, v76⟩, hR⟩, ⟨rfl, rfl, rfl⟩, rfl⟩ := hW
  have hx : Phi rs ≤ 2663816 := hI.1.phi
  have hn3 := hN.1
  have htl3 : (rs 3).1 ≤ 4300 := by omega
  refine v_aload_n hX d_L_law_456 rfl rfl ?_
  refine v_aload_n hX d_L_law_457 rfl rfl ?_
  refine v_iload hX d_L_law_458 rfl ?_
  refine v_iconst (v := 1) hX d_L_law_460 (by decide) ?_
  refine v_iaddE (v := nI (i + 1)) hX d_L_law_461 (nI_add i 1) ?_
  refine v_snI hX hs (i := (i + 1)) (by omega) hL d_L_law_462 ?_
  refine v_aload_n hX d_L_law_463 rfl rfl ?_
  refine v_iload hX d_L_law_464 rfl ?_
  refine v_iconst (v := 2) hX d_L_law_466 (by decide) ?_
  refine v_iaddE (v := nI (i + 2)) hX d_L_law_467 (nI_add i 2) ?_
  refine v_snI hX hs (i := (i + 2)) (by omega) hL d_L_law_468 ?_
  refine c_V hX 0 (rest := []) hl (c_P_node hI hN hD hU hha hts (sc ((i + 1))) (sc ((i + 2)))) ml_L_71 im_P_node se_P_node in_P cd_P_node rfl q_P_node ⟨(Nat.le_of_ble_eq_true rfl), (Nat.le_of_ble_eq_true rfl)⟩ hD.1.1 hD.1.2.1 hD.1.2.2 rfl rfl rfl rfl (Nat.le_of_ble_eq_true rfl) d_L_law_469 ⟨by show _ + (120 + (2663816 - Phi rs) / 16) ≤ 601024; omega, by show _ + (700000 + (2663816 - Phi rs)) ≤ 7293034; omega⟩ (fun rv d2 lo2 va2 kc ns hp => ?_)
  obtain ⟨⟨v1, rfl⟩, rfl, rfl, rfl, rfl, rfl⟩ := hp
  show V X D CL A _ _ _ _ _ _ _ (.int v1 :: [])
  refine v_pop hX d_L_law_472 rfl ?_
  refine v_aload_n hX d_L_law_473 rfl rfl ?_
  refine v_aload_n hX d_L_law_474 rfl rfl ?_
  refine v_iload hX d_L_law_475 rfl ?_
  refine v_iconst (v := 1) hX d_L_law_477 (by decide) ?_
  refine v_iaddE (v := nI (i + 1)) hX d_L_law_478 (nI_add i 1) ?_
  refine v_snI hX hs (i := (i + 1)) (by omega) hL d_L_law_479 ?_
  refine v_aload_n hX d_L_law_480 rfl rfl ?_
  refine v_iload hX d_L_law_481 rfl ?_
  refine v_iconst (v := 2) hX d_L_law_483 (by decide) ?_
  refine v_iaddE (v := nI (i + 2)) hX d_L_law_484 (nI_add i 2) ?_
  refine v_snI hX hs (i := (i + 2)) (by omega) hL d_L_law_485 ?_
  refine c_V hX 48 (rest := []) hl (c_M_node hM hO (sc ((i + 1))) (sc ((i + 2))) hTM) ml_L_74 im_M_node se_M_node in_M cd_M_node rfl q_M_node ⟨(Nat.le_of_ble_eq_true rfl), (Nat.le_of_ble_eq_true rfl)⟩ hM.1.1 hM.1.2.1 hM.1.2.2 rfl rfl rfl rfl (Nat.le_of_ble_eq_true rfl) d_L_law_486 ⟨by show _ + 0 ≤ 601024; omega, by show _ + 0 ≤ 7293034; omega⟩ (fun rv d2 lo2 va2 kc ns hp => ?_)
  obtain ⟨rfl, rfl, rfl, rfl, _, o2, ⟨⟨v2, rfl⟩, rfl⟩, hM2, hO2, hf2⟩ := hp
  show V X D CL A _ _ _ _ _ _ _ (.int v2 :: [])
  refine v_pop hX d_L_law_489 rfl ?_
  refine v_goto hX d_L_law_490 (tgt := 518) (by decide) ?_
  exact kk _ _ _ _ _ _ _ _ ⟨ob, td, ts, rs, sh, T, n, ha, ch, hp, C, M, o2, ⟨⟨(hI.frM hf2), (hN.frM hf2), (hD.frM hf2)⟩, ⟨hT, hU, hF⟩, ⟨hha, hts, hz4, htl, hch⟩, ⟨hM2, hO2.1, hTM, hTX⟩, ⟨g76, l76, _, ((hf2 76 (by omega)).trans v76)⟩, hR⟩, ⟨rfl, rfl, rfl⟩, rfl⟩ ⟨by omega, by omega⟩
set_option maxHeartbeats 4000000 in
set_option maxRecDepth 100000 in
theorem law_about {l : Launch} {X : KX} {D : va_G} {A : Nat → Prop} {cI cB cZ cJ cN : ClassId} {b L : Nat} {sc : Nat → Int32} {i cells slots a0 a48 a76 ph : Nat} {dom : Nat → Prop} {loc : Nat → Nat} {val : Nat → va_E} {o5 o6 : Option Value} (hX : OX X b_L_law 7 "ProsePagesLaw" TT D CL (TY cI cB cZ cJ cN) A room_1) (hl : X.2.1 = l) (htr : l.stackTraces = false) (hs : va_X b L sc (xs X) (xs X).heap ∧ b < (xs X).heap.size ∧ ¬ A b) (hL : L ≤ 3072) (hi : i + 6 ≤ L) (hW : LW9 cI cB cZ cJ cN a0 a48 a76 ph dom loc val) (hc : cells + 200 + (2663816 - ph) / 16 ≤ 601024) (hsl : slots + 700200 + (2663816 - ph) ≤ 7293034) (kk : KL9 X D A cI cB cZ cJ cN b a0 a48 a76 ph i cells slots) : V X D CL A dom loc val cells slots 493 [some (.ref b), some (.ref a0), some (.ref a48), some (.ref a76), some (.int (nI i)), o5, o6] [] := by
  obtain ⟨ob, td, ts, rs, sh, T, n, ha, ch, hp, C, M, O, ⟨⟨hI, hN, hD⟩, ⟨hT, hU, hF⟩, ⟨hha, hts, hz4, htl, hch⟩, ⟨hM, hO, hTM, hTX⟩, ⟨g76, l76, f76, v76⟩, hR⟩, ⟨rfl, rfl, rfl⟩, rfl⟩ := hW
  have hx : Phi rs ≤ 2663816 := hI.1.phi
  have hn3 := hN.1
  have htl3 : (rs 3).1 ≤ 4300 := by omega
  refine v_aload_n hX d_L_law_493 rfl rfl ?_
  refine v_aload_n hX d_L_law_494 rfl rfl ?_
  refine v_iload hX d_L_law_495 rfl ?_
  refine v_iconst (v := 1) hX d_L_law_497 (by decide) ?_
  refine v_iaddE (v := nI (i + 1)) hX d_L_law_498 (nI_add i 1) ?_
  refine v_snI hX hs (i := (i + 1)) (by omega) hL d_L_law_499 ?_
  refine c_V hX 0 (rest := []) hl (c_P_about hI hN hD hU hha hts (sc ((i + 1)))) ml_L_75 im_P_about se_P_about in_P cd_P_about rfl q_P_about ⟨(Nat.le_of_ble_eq_true rfl), (Nat.le_of_ble_eq_true rfl)⟩ hD.1.1 hD.1.2.1 hD.1.2.2 rfl rfl rfl rfl (Nat.le_of_ble_eq_true rfl) d_L_law_500 ⟨by show _ + (120 + (2663816 - Phi rs) / 16) ≤ 601024; omega, by show _ + (700000 + (2663816 - Phi rs)) ≤ 7293034; omega⟩ (fun rv d2 lo2 va2 kc ns hp => ?_)
  obtain ⟨⟨v1, rfl⟩, rfl, rfl, rfl, rfl, rfl⟩ := hp
  show V X D CL A _ _ _ _ _ _ _ (.int v1 :: [])
  refine v_pop hX d_L_law_503 rfl ?_
  refine v_aload_n hX d_L_law_504 rfl rfl ?_
  refine v_aload_n hX d_L_law_505 rfl rfl ?_
  refine v_iload hX d_L_law_506 rfl ?_
  refine v_iconst (v := 1) hX d_L_law_508 (by decide) ?_
  refine v_iaddE (v := nI (i + 1)) hX d_L_law_509 (nI_add i 1) ?_
  refine v_snI hX hs (i := (i + 1)) (by omega) hL d_L_law_510 ?_
  refine c_V hX 48 (rest := []) hl (c_M_about hM hO (sc ((i + 1))) ) ml_L_78 im_M_about se_M_about in_M cd_M_about rfl q_M_about ⟨(Nat.le_of_ble_eq_true rfl), (Nat.le_of_ble_eq_true rfl)⟩ hM.1.1 hM.1.2.1 hM.1.2.2 rfl rfl rfl rfl (Nat.le_of_ble_eq_true rfl) d_L_law_511 ⟨by show _ + 0 ≤ 601024; omega, by show _ + 0 ≤ 7293034; omega⟩ (fun rv d2 lo2 va2 kc ns hp => ?_)
  obtain ⟨rfl, rfl, rfl, rfl, _, o2, ⟨⟨v2, rfl⟩, rfl⟩, hM2, hO2, hf2⟩ := hp
  show V X D CL A _ _ _ _ _ _ _ (.int v2 :: [])
  refine v_pop hX d_L_law_514 rfl ?_
  refine v_goto hX d_L_law_515 (tgt := 518) (by decide) ?_
  exact kk _ _ _ _ _ _ _ _ ⟨ob, td, ts, rs, sh, T, n, ha, ch, hp, C, M, o2, ⟨⟨(hI.frM hf2), (hN.frM hf2), (hD.frM hf2)⟩, ⟨hT, hU, hF⟩, ⟨hha, hts, hz4, htl, hch⟩, ⟨hM2, hO2.1, hTM, hTX⟩, ⟨g76, l76, _, ((hf2 76 (by omega)).trans v76)⟩, hR⟩, ⟨rfl, rfl, rfl⟩, rfl⟩ ⟨by omega, by omega⟩
set_option maxHeartbeats 4000000 in
set_option maxRecDepth 100000 in
theorem law_end {l : Launch} {X : KX} {D : va_G} {A : Nat → Prop} {cI cB cZ cJ cN : ClassId} {b L : Nat} {sc : Nat → Int32} {i cells slots a0 a48 a76 ph : Nat} {dom : Nat → Prop} {loc : Nat → Nat} {val : Nat → va_E} {o5 o6 : Option Value} (hX : OX X b_L_law 7 "ProsePagesLaw" TT D CL (TY cI cB cZ cJ cN) A room_1) (hl : X.2.1 = l) (htr : l.stackTraces = false) (hs : va_X b L sc (xs X) (xs X).heap ∧ b < (xs X).heap.size ∧ ¬ A b) (hL : L ≤ 3072) (hi : i + 6 ≤ L) (hW : LW9 cI cB cZ cJ cN a0 a48 a76 ph dom loc val) (hc : cells + 200 + (2663816 - ph) / 16 ≤ 601024) (hsl : slots + 700200 + (2663816 - ph) ≤ 7293034) (kk : KL9 X D A cI cB cZ cJ cN b a0 a48 a76 ph i cells slots) : V X D CL A dom loc val cells slots 140 [some (.ref b), some (.ref a0), some (.ref a48), some (.ref a76), some (.int (nI i)), o5, o6] [] := by
  obtain ⟨ob, td, ts, rs, sh, T, n, ha, ch, hp, C, M, O, ⟨⟨hI, hN, hD⟩, ⟨hT, hU, hF⟩, ⟨hha, hts, hz4, htl, hch⟩, ⟨hM, hO, hTM, hTX⟩, ⟨g76, l76, f76, v76⟩, hR⟩, ⟨rfl, rfl, rfl⟩, rfl⟩ := hW
  have hx : Phi rs ≤ 2663816 := hI.1.phi
  have hn3 := hN.1
  have htl3 : (rs 3).1 ≤ 4300 := by omega
  obtain ⟨⟨r1, r2, r3⟩, ⟨r4, r5⟩, r6, r7⟩ := id hR
  by_cases c0 : ha = 0
  · have hu0 : tU T ha = none := by rw [c0]; exact r5
    have hm0 : ttHa M = 0 := by rw [r2]; exact c0
    refine v_aload_n hX d_L_law_140 rfl rfl ?_
    refine c_V hX 0 (rest := []) hl (p_end0 hI hN hD hU hha hts hu0) ml_L_34 im_P_end se_P_end in_P cd_P_end rfl q_P_end ⟨(Nat.le_of_ble_eq_true rfl), (Nat.le_of_ble_eq_true rfl)⟩ hD.1.1 hD.1.2.1 hD.1.2.2 rfl rfl rfl rfl (Nat.le_of_ble_eq_true rfl) d_L_law_141 ⟨by show _ + (120 + (2663816 - Phi rs) / 16) ≤ 601024; omega, by show _ + (700000 + (2663816 - Phi rs)) ≤ 7293034; omega⟩ (fun rv d2 lo2 va1 kc ns hp => ?_)
    obtain ⟨rfl, rfl, rfl, rfl, rfl, hfc, hI1, hN1, hD1⟩ := hp
    show V X D CL A _ _ _ _ _ _ _ (.int (-1) :: [])
    have hM1 := hM.frC hfc (fun _ _ => rfl) (fun _ h => h)
    have v761 := (hfc 76 (by omega) (by omega) (by omega)).2.trans v76
    refine v_pop hX d_L_law_144 rfl ?_
    refine v_aload_n hX d_L_law_145 rfl rfl ?_
    refine c_V hX 48 (rest := []) hl (m_end0 hM1 hO hTM hm0) ml_L_38 im_M_end se_M_end in_M cd_M_end rfl q_M_end ⟨(Nat.le_of_ble_eq_true rfl), (Nat.le_of_ble_eq_true rfl)⟩ hM1.1.1 hM1.1.2.1 hM1.1.2.2 rfl rfl rfl rfl (Nat.le_of_ble_eq_true rfl) d_L_law_146 ⟨by show _ + 0 ≤ 601024; omega, by show _ + 0 ≤ 7293034; omega⟩ (fun rv d2 lo2 va9 kc ns hp => ?_)
    obtain ⟨rfl, rfl, rfl, rfl, rfl, o9, hM9, hO9, hf9⟩ := hp
    show V X D CL A _ _ _ _ _ _ _ (.int (-1) :: [])
    refine v_pop hX d_L_law_149 rfl ?_
    refine v_goto hX d_L_law_150 (tgt := 518) (by decide) ?_
    exact kk _ _ _ _ _ _ _ _ ⟨ob, td, ts, rs, sh, T, n, ha, ch, hp, C, M, o9, ⟨⟨(hI1.frM hf9), (hN1.frM hf9), (hD1.frM hf9)⟩, ⟨hT, hU, hF⟩, ⟨hha, hts, hz4, htl, hch⟩, ⟨hM9, hO9, hTM, hTX⟩, ⟨g76, l76, _, ((hf9 76 (by omega)).trans v761)⟩, hR⟩, ⟨rfl, rfl, rfl⟩, rfl⟩ ⟨by omega, by omega⟩
  · have hu0 : tU T ha = some (pu M ha) := (r6 ha (by omega) hha).2
    have hm0 : ¬ ttHa M = 0 := by rw [r2]; exact c0
    refine v_aload_n hX d_L_law_140 rfl rfl ?_
    refine c_V hX 0 (rest := []) hl (p_endS hI hN hD hU hha hts hu0) ml_L_34 im_P_end se_P_end in_P cd_P_end rfl q_P_end ⟨(Nat.le_of_ble_eq_true rfl), (Nat.le_of_ble_eq_true rfl)⟩ hD.1.1 hD.1.2.1 hD.1.2.2 rfl rfl rfl rfl (Nat.le_of_ble_eq_true rfl) d_L_law_141 ⟨by show _ + (120 + (2663816 - Phi rs) / 16) ≤ 601024; omega, by show _ + (700000 + (2663816 - Phi rs)) ≤ 7293034; omega⟩ (fun rv d2 lo2 va1 kc ns hp => ?_)
    obtain ⟨rfl, rfl, rfl, rfl, rfl, hfc, hI1, hN1, hD1⟩ := hp
    show V X D CL A _ _ _ _ _ _ _ (.int (nI (pu M ha)) :: [])
    have hM1 := hM.frC hfc (fun _ _ => rfl) (fun _ h => h)
    have v761 := (hfc 76 (by omega) (by omega) (by omega)).2.trans v76
    refine v_pop hX d_L_law_144 rfl ?_
    refine v_aload_n hX d_L_law_145 rfl rfl ?_
    refine c_V hX 48 (rest := []) hl (m_endS hM1 hO hTM hm0) ml_L_38 im_M_end se_M_end in_M cd_M_end rfl q_M_end ⟨(Nat.le_of_ble_eq_true rfl), (Nat.le_of_ble_eq_true rfl)⟩ hM1.1.1 hM1.1.2.1 hM1.1.2.2 rfl rfl rfl rfl (Nat.le_of_ble_eq_true rfl) d_L_law_146 ⟨by show _ + 0 ≤ 601024; omega, by show _ + 0 ≤ 7293034; omega⟩ (fun rv d2 lo2 va9 kc ns hp => ?_)
    obtain ⟨rfl, rfl, rfl, rfl, rfl, o9, hM9, hO9, hf9⟩ := hp
    show V X D CL A _ _ _ _ _ _ _ (.int (nI (pu M (ttHa M))) :: [])
    refine v_pop hX d_L_law_149 rfl ?_
    refine v_goto hX d_L_law_150 (tgt := 518) (by decide) ?_
    exact kk _ _ _ _ _ _ _ _ ⟨ob, td, ts, rs, sh, T, n, (pu M ha), ch, hp, C, (sxHa M (pu M (ttHa M))), o9, ⟨⟨(hI1.frM hf9), (hN1.frM hf9), (hD1.frM hf9)⟩, ⟨hT, hU, hF⟩, ⟨Nat.lt_of_le_of_lt (hTM.pule (by omega)) hha, hts, hz4, htl, hch⟩, ⟨hM9, hO9, (end_ok hTM), hTX⟩, ⟨g76, l76, _, ((hf9 76 (by omega)).trans v761)⟩, (by rw [r2]; exact rel_ha hR _)⟩, ⟨rfl, rfl, rfl⟩, rfl⟩ ⟨by omega, by omega⟩
