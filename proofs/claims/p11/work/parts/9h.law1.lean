/-- what follows a case of the law -/
abbrev KL9 (X : KX) (D : va_G) (A : Nat → Prop) (cI cB cZ cJ cN : ClassId) (b a0 a48 a76 ph i cells slots : Nat) : Prop := ∀ (dom2 : Nat → Prop) (loc2 : Nat → Nat) (val2 : Nat → va_E) (ph2 k2 s2 : Nat) (o5 o6 : Option Value), LW9 cI cB cZ cJ cN a0 a48 a76 ph2 dom2 loc2 val2 → (s2 + ph ≤ slots + ph2 + 40 ∧ 16 * k2 + ph ≤ 16 * cells + ph2 + 80) → V X D CL A dom2 loc2 val2 k2 s2 490 [some (.ref b), some (.ref a0), some (.ref a48), some (.ref a76), some (.int (nI i)), o5, o6] []
set_option maxHeartbeats 4000000 in
set_option maxRecDepth 100000 in
theorem law_cell {l : Launch} {X : KX} {D : va_G} {A : Nat → Prop} {cI cB cZ cJ cN : ClassId} {b L : Nat} {sc : Nat → Int32} {i cells slots a0 a48 a76 ph : Nat} {dom : Nat → Prop} {loc : Nat → Nat} {val : Nat → va_E} {o5 o6 : Option Value} (hX : OX X b_L_law 7 "ProsePagesLaw" TT D CL (TY cI cB cZ cJ cN) A room_1) (hl : X.2.1 = l) (htr : l.stackTraces = false) (hs : va_X b L sc (xs X) (xs X).heap ∧ b < (xs X).heap.size ∧ ¬ A b) (hL : L ≤ 3072) (hi : i + 6 ≤ L) (hW : LW9 cI cB cZ cJ cN a0 a48 a76 ph dom loc val) (hc : cells + 200 + (2663816 - ph) / 16 ≤ 601024) (hsl : slots + 700200 + (2663816 - ph) ≤ 7293034) (kk : KL9 X D A cI cB cZ cJ cN b a0 a48 a76 ph i cells slots) : V X D CL A dom loc val cells slots 280 [some (.ref b), some (.ref a0), some (.ref a48), some (.ref a76), some (.int (nI i)), o5, o6] [] := by
  obtain ⟨ob, td, ts, rs, sh, T, n, ha, ch, hp, C, M, O, ⟨⟨hI, hN, hD⟩, ⟨hT, hU, hF⟩, ⟨hha, hts, hz4, htl, hch⟩, ⟨hM, hO, hTM, hTX⟩, ⟨g76, l76, f76, v76⟩, hR, hV⟩, ⟨rfl, rfl, rfl⟩, rfl⟩ := hW
  have hx : Phi rs ≤ 2663816 := hI.1.phi
  have hn3 := hN.1
  have htl3 : (rs 3).1 ≤ 4300 := by omega
  refine v_aload_n hX d_L_law_280 rfl rfl ?_
  refine v_aload_n hX d_L_law_281 rfl rfl ?_
  refine v_iload hX d_L_law_282 rfl ?_
  refine v_iconst (v := 1) hX d_L_law_284 (by decide) ?_
  refine v_iaddE (v := nI (i + 1)) hX d_L_law_285 (nI_add i 1) ?_
  refine v_snI hX hs (i := (i + 1)) (by omega) hL d_L_law_286 ?_
  refine v_aload_n hX d_L_law_287 rfl rfl ?_
  refine v_iload hX d_L_law_288 rfl ?_
  refine v_iconst (v := 2) hX d_L_law_290 (by decide) ?_
  refine v_iaddE (v := nI (i + 2)) hX d_L_law_291 (nI_add i 2) ?_
  refine v_snI hX hs (i := (i + 2)) (by omega) hL d_L_law_292 ?_
  refine v_aload_n hX d_L_law_293 rfl rfl ?_
  refine v_iload hX d_L_law_294 rfl ?_
  refine v_iconst (v := 3) hX d_L_law_296 (by decide) ?_
  refine v_iaddE (v := nI (i + 3)) hX d_L_law_297 (nI_add i 3) ?_
  refine v_snI hX hs (i := (i + 3)) (by omega) hL d_L_law_298 ?_
  refine c_V hX 0 (rest := []) hl (c_P_cell hI hN hD hU hha hts (sc ((i + 1))) (sc ((i + 2))) (sc ((i + 3)))) ml_L_50 im_P_cell se_P_cell in_P cd_P_cell rfl q_P_cell ⟨(Nat.le_of_ble_eq_true rfl), (Nat.le_of_ble_eq_true rfl)⟩ hD.1.1 hD.1.2.1 hD.1.2.2 rfl rfl rfl rfl (Nat.le_of_ble_eq_true rfl) d_L_law_299 ⟨by show _ + (120 + (2663816 - Phi rs) / 16) ≤ 601024; omega, by show _ + (700000 + (2663816 - Phi rs)) ≤ 7293034; omega⟩ (fun rv d2 lo2 va2 kc ns hp => ?_)
  obtain ⟨⟨v1, rfl⟩, rfl, rfl, rfl, rfl, rfl⟩ := hp
  show V X D CL A _ _ _ _ _ _ _ (.int v1 :: [])
  refine v_pop hX d_L_law_302 rfl ?_
  refine v_aload_n hX d_L_law_303 rfl rfl ?_
  refine v_aload_n hX d_L_law_304 rfl rfl ?_
  refine v_iload hX d_L_law_305 rfl ?_
  refine v_iconst (v := 1) hX d_L_law_307 (by decide) ?_
  refine v_iaddE (v := nI (i + 1)) hX d_L_law_308 (nI_add i 1) ?_
  refine v_snI hX hs (i := (i + 1)) (by omega) hL d_L_law_309 ?_
  refine v_aload_n hX d_L_law_310 rfl rfl ?_
  refine v_iload hX d_L_law_311 rfl ?_
  refine v_iconst (v := 2) hX d_L_law_313 (by decide) ?_
  refine v_iaddE (v := nI (i + 2)) hX d_L_law_314 (nI_add i 2) ?_
  refine v_snI hX hs (i := (i + 2)) (by omega) hL d_L_law_315 ?_
  refine v_aload_n hX d_L_law_316 rfl rfl ?_
  refine v_iload hX d_L_law_317 rfl ?_
  refine v_iconst (v := 3) hX d_L_law_319 (by decide) ?_
  refine v_iaddE (v := nI (i + 3)) hX d_L_law_320 (nI_add i 3) ?_
  refine v_snI hX hs (i := (i + 3)) (by omega) hL d_L_law_321 ?_
  refine c_V hX 48 (rest := []) hl (c_M_cell hM hO (sc ((i + 1))) (sc ((i + 2))) (sc ((i + 3))) hTX.2.1) ml_L_54 im_M_cell se_M_cell in_M cd_M_cell rfl q_M_cell ⟨(Nat.le_of_ble_eq_true rfl), (Nat.le_of_ble_eq_true rfl)⟩ hM.1.1 hM.1.2.1 hM.1.2.2 rfl rfl rfl rfl (Nat.le_of_ble_eq_true rfl) d_L_law_322 ⟨by show _ + 0 ≤ 601024; omega, by show _ + 0 ≤ 7293034; omega⟩ (fun rv d2 lo2 va2 kc ns hp => ?_)
  obtain ⟨rfl, rfl, rfl, rfl, _, o2, ⟨⟨v2, rfl⟩, rfl⟩, hM2, hO2, hf2⟩ := hp
  show V X D CL A _ _ _ _ _ _ _ (.int v2 :: [])
  refine v_pop hX d_L_law_325 rfl ?_
  refine v_goto hX d_L_law_326 (tgt := 490) (by decide) ?_
  exact kk _ _ _ _ _ _ _ _ ⟨ob, td, ts, rs, sh, T, n, ha, ch, hp, C, M, o2, ⟨⟨(hI.frM hf2), (hN.frM hf2), (hD.frM hf2)⟩, ⟨hT, hU, hF⟩, ⟨hha, hts, hz4, htl, hch⟩, ⟨hM2, hO2.1, hTM, hTX⟩, ⟨g76, l76, _, ((hf2 76 (by omega)).trans v76)⟩, ⟨hR, hV⟩⟩, ⟨rfl, rfl, rfl⟩, rfl⟩ ⟨by omega, by omega⟩
set_option maxHeartbeats 4000000 in
set_option maxRecDepth 100000 in
theorem law_page {l : Launch} {X : KX} {D : va_G} {A : Nat → Prop} {cI cB cZ cJ cN : ClassId} {b L : Nat} {sc : Nat → Int32} {i cells slots a0 a48 a76 ph : Nat} {dom : Nat → Prop} {loc : Nat → Nat} {val : Nat → va_E} {o5 o6 : Option Value} (hX : OX X b_L_law 7 "ProsePagesLaw" TT D CL (TY cI cB cZ cJ cN) A room_1) (hl : X.2.1 = l) (htr : l.stackTraces = false) (hs : va_X b L sc (xs X) (xs X).heap ∧ b < (xs X).heap.size ∧ ¬ A b) (hL : L ≤ 3072) (hi : i + 6 ≤ L) (hW : LW9 cI cB cZ cJ cN a0 a48 a76 ph dom loc val) (hc : cells + 200 + (2663816 - ph) / 16 ≤ 601024) (hsl : slots + 700200 + (2663816 - ph) ≤ 7293034) (kk : KL9 X D A cI cB cZ cJ cN b a0 a48 a76 ph i cells slots) : V X D CL A dom loc val cells slots 329 [some (.ref b), some (.ref a0), some (.ref a48), some (.ref a76), some (.int (nI i)), o5, o6] [] := by
  obtain ⟨ob, td, ts, rs, sh, T, n, ha, ch, hp, C, M, O, ⟨⟨hI, hN, hD⟩, ⟨hT, hU, hF⟩, ⟨hha, hts, hz4, htl, hch⟩, ⟨hM, hO, hTM, hTX⟩, ⟨g76, l76, f76, v76⟩, hR, hV⟩, ⟨rfl, rfl, rfl⟩, rfl⟩ := hW
  have hx : Phi rs ≤ 2663816 := hI.1.phi
  have hn3 := hN.1
  have htl3 : (rs 3).1 ≤ 4300 := by omega
  refine v_aload_n hX d_L_law_329 rfl rfl ?_
  refine v_aload_n hX d_L_law_330 rfl rfl ?_
  refine v_iload hX d_L_law_331 rfl ?_
  refine v_iconst (v := 1) hX d_L_law_333 (by decide) ?_
  refine v_iaddE (v := nI (i + 1)) hX d_L_law_334 (nI_add i 1) ?_
  refine v_snI hX hs (i := (i + 1)) (by omega) hL d_L_law_335 ?_
  refine v_aload_n hX d_L_law_336 rfl rfl ?_
  refine v_iload hX d_L_law_337 rfl ?_
  refine v_iconst (v := 2) hX d_L_law_339 (by decide) ?_
  refine v_iaddE (v := nI (i + 2)) hX d_L_law_340 (nI_add i 2) ?_
  refine v_snI hX hs (i := (i + 2)) (by omega) hL d_L_law_341 ?_
  refine c_V hX 0 (rest := []) hl (c_P_page hI hN hD hU hha hts (sc ((i + 1))) (sc ((i + 2)))) ml_L_55 im_P_page se_P_page in_P cd_P_page rfl q_P_page ⟨(Nat.le_of_ble_eq_true rfl), (Nat.le_of_ble_eq_true rfl)⟩ hD.1.1 hD.1.2.1 hD.1.2.2 rfl rfl rfl rfl (Nat.le_of_ble_eq_true rfl) d_L_law_342 ⟨by show _ + (120 + (2663816 - Phi rs) / 16) ≤ 601024; omega, by show _ + (700000 + (2663816 - Phi rs)) ≤ 7293034; omega⟩ (fun rv d2 lo2 va2 kc ns hp => ?_)
  obtain ⟨⟨v1, rfl⟩, rfl, rfl, rfl, rfl, rfl⟩ := hp
  show V X D CL A _ _ _ _ _ _ _ (.int v1 :: [])
  refine v_pop hX d_L_law_345 rfl ?_
  refine v_aload_n hX d_L_law_346 rfl rfl ?_
  refine v_aload_n hX d_L_law_347 rfl rfl ?_
  refine v_iload hX d_L_law_348 rfl ?_
  refine v_iconst (v := 1) hX d_L_law_350 (by decide) ?_
  refine v_iaddE (v := nI (i + 1)) hX d_L_law_351 (nI_add i 1) ?_
  refine v_snI hX hs (i := (i + 1)) (by omega) hL d_L_law_352 ?_
  refine v_aload_n hX d_L_law_353 rfl rfl ?_
  refine v_iload hX d_L_law_354 rfl ?_
  refine v_iconst (v := 2) hX d_L_law_356 (by decide) ?_
  refine v_iaddE (v := nI (i + 2)) hX d_L_law_357 (nI_add i 2) ?_
  refine v_snI hX hs (i := (i + 2)) (by omega) hL d_L_law_358 ?_
  refine c_V hX 48 (rest := []) hl (c_M_page hM hO (sc ((i + 1))) (sc ((i + 2))) ) ml_L_58 im_M_page se_M_page in_M cd_M_page rfl q_M_page ⟨(Nat.le_of_ble_eq_true rfl), (Nat.le_of_ble_eq_true rfl)⟩ hM.1.1 hM.1.2.1 hM.1.2.2 rfl rfl rfl rfl (Nat.le_of_ble_eq_true rfl) d_L_law_359 ⟨by show _ + 0 ≤ 601024; omega, by show _ + 0 ≤ 7293034; omega⟩ (fun rv d2 lo2 va2 kc ns hp => ?_)
  obtain ⟨rfl, rfl, rfl, rfl, _, o2, ⟨⟨v2, rfl⟩, rfl⟩, hM2, hO2, hf2⟩ := hp
  show V X D CL A _ _ _ _ _ _ _ (.int v2 :: [])
  refine v_pop hX d_L_law_362 rfl ?_
  refine v_goto hX d_L_law_363 (tgt := 490) (by decide) ?_
  exact kk _ _ _ _ _ _ _ _ ⟨ob, td, ts, rs, sh, T, n, ha, ch, hp, C, M, o2, ⟨⟨(hI.frM hf2), (hN.frM hf2), (hD.frM hf2)⟩, ⟨hT, hU, hF⟩, ⟨hha, hts, hz4, htl, hch⟩, ⟨hM2, hO2.1, hTM, hTX⟩, ⟨g76, l76, _, ((hf2 76 (by omega)).trans v76)⟩, ⟨hR, hV⟩⟩, ⟨rfl, rfl, rfl⟩, rfl⟩ ⟨by omega, by omega⟩
set_option maxHeartbeats 4000000 in
set_option maxRecDepth 100000 in
theorem law_line {l : Launch} {X : KX} {D : va_G} {A : Nat → Prop} {cI cB cZ cJ cN : ClassId} {b L : Nat} {sc : Nat → Int32} {i cells slots a0 a48 a76 ph : Nat} {dom : Nat → Prop} {loc : Nat → Nat} {val : Nat → va_E} {o5 o6 : Option Value} (hX : OX X b_L_law 7 "ProsePagesLaw" TT D CL (TY cI cB cZ cJ cN) A room_1) (hl : X.2.1 = l) (htr : l.stackTraces = false) (hs : va_X b L sc (xs X) (xs X).heap ∧ b < (xs X).heap.size ∧ ¬ A b) (hL : L ≤ 3072) (hi : i + 6 ≤ L) (hW : LW9 cI cB cZ cJ cN a0 a48 a76 ph dom loc val) (hc : cells + 200 + (2663816 - ph) / 16 ≤ 601024) (hsl : slots + 700200 + (2663816 - ph) ≤ 7293034) (kk : KL9 X D A cI cB cZ cJ cN b a0 a48 a76 ph i cells slots) : V X D CL A dom loc val cells slots 366 [some (.ref b), some (.ref a0), some (.ref a48), some (.ref a76), some (.int (nI i)), o5, o6] [] := by
  obtain ⟨ob, td, ts, rs, sh, T, n, ha, ch, hp, C, M, O, ⟨⟨hI, hN, hD⟩, ⟨hT, hU, hF⟩, ⟨hha, hts, hz4, htl, hch⟩, ⟨hM, hO, hTM, hTX⟩, ⟨g76, l76, f76, v76⟩, hR, hV⟩, ⟨rfl, rfl, rfl⟩, rfl⟩ := hW
  have hx : Phi rs ≤ 2663816 := hI.1.phi
  have hn3 := hN.1
  have htl3 : (rs 3).1 ≤ 4300 := by omega
  refine v_aload_n hX d_L_law_366 rfl rfl ?_
  refine v_aload_n hX d_L_law_367 rfl rfl ?_
  refine v_iload hX d_L_law_368 rfl ?_
  refine v_iconst (v := 1) hX d_L_law_370 (by decide) ?_
  refine v_iaddE (v := nI (i + 1)) hX d_L_law_371 (nI_add i 1) ?_
  refine v_snI hX hs (i := (i + 1)) (by omega) hL d_L_law_372 ?_
  refine v_aload_n hX d_L_law_373 rfl rfl ?_
  refine v_iload hX d_L_law_374 rfl ?_
  refine v_iconst (v := 2) hX d_L_law_376 (by decide) ?_
  refine v_iaddE (v := nI (i + 2)) hX d_L_law_377 (nI_add i 2) ?_
  refine v_snI hX hs (i := (i + 2)) (by omega) hL d_L_law_378 ?_
  refine c_V hX 0 (rest := []) hl (c_P_line hI hN hD hU hha hts (sc ((i + 1))) (sc ((i + 2)))) ml_L_59 im_P_line se_P_line in_P cd_P_line rfl q_P_line ⟨(Nat.le_of_ble_eq_true rfl), (Nat.le_of_ble_eq_true rfl)⟩ hD.1.1 hD.1.2.1 hD.1.2.2 rfl rfl rfl rfl (Nat.le_of_ble_eq_true rfl) d_L_law_379 ⟨by show _ + (120 + (2663816 - Phi rs) / 16) ≤ 601024; omega, by show _ + (700000 + (2663816 - Phi rs)) ≤ 7293034; omega⟩ (fun rv d2 lo2 va2 kc ns hp => ?_)
  obtain ⟨⟨v1, rfl⟩, rfl, rfl, rfl, rfl, rfl⟩ := hp
  show V X D CL A _ _ _ _ _ _ _ (.int v1 :: [])
  refine v_pop hX d_L_law_382 rfl ?_
  refine v_aload_n hX d_L_law_383 rfl rfl ?_
  refine v_aload_n hX d_L_law_384 rfl rfl ?_
  refine v_iload hX d_L_law_385 rfl ?_
  refine v_iconst (v := 1) hX d_L_law_387 (by decide) ?_
  refine v_iaddE (v := nI (i + 1)) hX d_L_law_388 (nI_add i 1) ?_
  refine v_snI hX hs (i := (i + 1)) (by omega) hL d_L_law_389 ?_
  refine v_aload_n hX d_L_law_390 rfl rfl ?_
  refine v_iload hX d_L_law_391 rfl ?_
  refine v_iconst (v := 2) hX d_L_law_393 (by decide) ?_
  refine v_iaddE (v := nI (i + 2)) hX d_L_law_394 (nI_add i 2) ?_
  refine v_snI hX hs (i := (i + 2)) (by omega) hL d_L_law_395 ?_
  refine c_V hX 48 (rest := []) hl (c_M_line hM hO (sc ((i + 1))) (sc ((i + 2))) ) ml_L_62 im_M_line se_M_line in_M cd_M_line rfl q_M_line ⟨(Nat.le_of_ble_eq_true rfl), (Nat.le_of_ble_eq_true rfl)⟩ hM.1.1 hM.1.2.1 hM.1.2.2 rfl rfl rfl rfl (Nat.le_of_ble_eq_true rfl) d_L_law_396 ⟨by show _ + 0 ≤ 601024; omega, by show _ + 0 ≤ 7293034; omega⟩ (fun rv d2 lo2 va2 kc ns hp => ?_)
  obtain ⟨rfl, rfl, rfl, rfl, _, o2, ⟨⟨v2, rfl⟩, rfl⟩, hM2, hO2, hf2⟩ := hp
  show V X D CL A _ _ _ _ _ _ _ (.int v2 :: [])
  refine v_pop hX d_L_law_399 rfl ?_
  refine v_goto hX d_L_law_400 (tgt := 490) (by decide) ?_
  exact kk _ _ _ _ _ _ _ _ ⟨ob, td, ts, rs, sh, T, n, ha, ch, hp, C, M, o2, ⟨⟨(hI.frM hf2), (hN.frM hf2), (hD.frM hf2)⟩, ⟨hT, hU, hF⟩, ⟨hha, hts, hz4, htl, hch⟩, ⟨hM2, hO2.1, hTM, hTX⟩, ⟨g76, l76, _, ((hf2 76 (by omega)).trans v76)⟩, ⟨hR, hV⟩⟩, ⟨rfl, rfl, rfl⟩, rfl⟩ ⟨by omega, by omega⟩
set_option maxHeartbeats 4000000 in
set_option maxRecDepth 100000 in
theorem law_find {l : Launch} {X : KX} {D : va_G} {A : Nat → Prop} {cI cB cZ cJ cN : ClassId} {b L : Nat} {sc : Nat → Int32} {i cells slots a0 a48 a76 ph : Nat} {dom : Nat → Prop} {loc : Nat → Nat} {val : Nat → va_E} {o5 o6 : Option Value} (hX : OX X b_L_law 7 "ProsePagesLaw" TT D CL (TY cI cB cZ cJ cN) A room_1) (hl : X.2.1 = l) (htr : l.stackTraces = false) (hs : va_X b L sc (xs X) (xs X).heap ∧ b < (xs X).heap.size ∧ ¬ A b) (hL : L ≤ 3072) (hi : i + 6 ≤ L) (hW : LW9 cI cB cZ cJ cN a0 a48 a76 ph dom loc val) (hc : cells + 200 + (2663816 - ph) / 16 ≤ 601024) (hsl : slots + 700200 + (2663816 - ph) ≤ 7293034) (kk : KL9 X D A cI cB cZ cJ cN b a0 a48 a76 ph i cells slots) : V X D CL A dom loc val cells slots 403 [some (.ref b), some (.ref a0), some (.ref a48), some (.ref a76), some (.int (nI i)), o5, o6] [] := by
  obtain ⟨ob, td, ts, rs, sh, T, n, ha, ch, hp, C, M, O, ⟨⟨hI, hN, hD⟩, ⟨hT, hU, hF⟩, ⟨hha, hts, hz4, htl, hch⟩, ⟨hM, hO, hTM, hTX⟩, ⟨g76, l76, f76, v76⟩, hR, hV⟩, ⟨rfl, rfl, rfl⟩, rfl⟩ := hW
  have hx : Phi rs ≤ 2663816 := hI.1.phi
  have hn3 := hN.1
  have htl3 : (rs 3).1 ≤ 4300 := by omega
  refine v_aload_n hX d_L_law_403 rfl rfl ?_
  refine v_aload_n hX d_L_law_404 rfl rfl ?_
  refine v_iload hX d_L_law_405 rfl ?_
  refine v_iconst (v := 1) hX d_L_law_407 (by decide) ?_
  refine v_iaddE (v := nI (i + 1)) hX d_L_law_408 (nI_add i 1) ?_
  refine v_snI hX hs (i := (i + 1)) (by omega) hL d_L_law_409 ?_
  refine c_V hX 0 (rest := []) hl (c_P_find hI hN hD hU hha hts (sc ((i + 1)))) ml_L_63 im_P_find se_P_find in_P cd_P_find rfl q_P_find ⟨(Nat.le_of_ble_eq_true rfl), (Nat.le_of_ble_eq_true rfl)⟩ hD.1.1 hD.1.2.1 hD.1.2.2 rfl rfl rfl rfl (Nat.le_of_ble_eq_true rfl) d_L_law_410 ⟨by show _ + (120 + (2663816 - Phi rs) / 16) ≤ 601024; omega, by show _ + (700000 + (2663816 - Phi rs)) ≤ 7293034; omega⟩ (fun rv d2 lo2 va2 kc ns hp => ?_)
  obtain ⟨⟨v1, rfl⟩, rfl, rfl, rfl, rfl, rfl⟩ := hp
  show V X D CL A _ _ _ _ _ _ _ (.int v1 :: [])
  refine v_pop hX d_L_law_413 rfl ?_
  refine v_aload_n hX d_L_law_414 rfl rfl ?_
  refine v_aload_n hX d_L_law_415 rfl rfl ?_
  refine v_iload hX d_L_law_416 rfl ?_
  refine v_iconst (v := 1) hX d_L_law_418 (by decide) ?_
  refine v_iaddE (v := nI (i + 1)) hX d_L_law_419 (nI_add i 1) ?_
  refine v_snI hX hs (i := (i + 1)) (by omega) hL d_L_law_420 ?_
  refine c_V hX 48 (rest := []) hl (c_M_find hM hO (sc ((i + 1))) ) ml_L_67 im_M_find se_M_find in_M cd_M_find rfl q_M_find ⟨(Nat.le_of_ble_eq_true rfl), (Nat.le_of_ble_eq_true rfl)⟩ hM.1.1 hM.1.2.1 hM.1.2.2 rfl rfl rfl rfl (Nat.le_of_ble_eq_true rfl) d_L_law_421 ⟨by show _ + 0 ≤ 601024; omega, by show _ + 0 ≤ 7293034; omega⟩ (fun rv d2 lo2 va2 kc ns hp => ?_)
  obtain ⟨rfl, rfl, rfl, rfl, _, o2, ⟨⟨v2, rfl⟩, rfl⟩, hM2, hO2, hf2⟩ := hp
  show V X D CL A _ _ _ _ _ _ _ (.int v2 :: [])
  refine v_pop hX d_L_law_424 rfl ?_
  refine v_goto hX d_L_law_425 (tgt := 490) (by decide) ?_
  exact kk _ _ _ _ _ _ _ _ ⟨ob, td, ts, rs, sh, T, n, ha, ch, hp, C, M, o2, ⟨⟨(hI.frM hf2), (hN.frM hf2), (hD.frM hf2)⟩, ⟨hT, hU, hF⟩, ⟨hha, hts, hz4, htl, hch⟩, ⟨hM2, hO2.1, hTM, hTX⟩, ⟨g76, l76, _, ((hf2 76 (by omega)).trans v76)⟩, ⟨hR, hV⟩⟩, ⟨rfl, rfl, rfl⟩, rfl⟩ ⟨by omega, by omega⟩
set_option maxHeartbeats 4000000 in
set_option maxRecDepth 100000 in
theorem law_node {l : Launch} {X : KX} {D : va_G} {A : Nat → Prop} {cI cB cZ cJ cN : ClassId} {b L : Nat} {sc : Nat → Int32} {i cells slots a0 a48 a76 ph : Nat} {dom : Nat → Prop} {loc : Nat → Nat} {val : Nat → va_E} {o5 o6 : Option Value} (hX : OX X b_L_law 7 "ProsePagesLaw" TT D CL (TY cI cB cZ cJ cN) A room_1) (hl : X.2.1 = l) (htr : l.stackTraces = false) (hs : va_X b L sc (xs X) (xs X).heap ∧ b < (xs X).heap.size ∧ ¬ A b) (hL : L ≤ 3072) (hi : i + 6 ≤ L) (hW : LW9 cI cB cZ cJ cN a0 a48 a76 ph dom loc val) (hc : cells + 200 + (2663816 - ph) / 16 ≤ 601024) (hsl : slots + 700200 + (2663816 - ph) ≤ 7293034) (kk : KL9 X D A cI cB cZ cJ cN b a0 a48 a76 ph i cells slots) : V X D CL A dom loc val cells slots 428 [some (.ref b), some (.ref a0), some (.ref a48), some (.ref a76), some (.int (nI i)), o5, o6] [] := by
  obtain ⟨ob, td, ts, rs, sh, T, n, ha, ch, hp, C, M, O, ⟨⟨hI, hN, hD⟩, ⟨hT, hU, hF⟩, ⟨hha, hts, hz4, htl, hch⟩, ⟨hM, hO, hTM, hTX⟩, ⟨g76, l76, f76, v76⟩, hR, hV⟩, ⟨rfl, rfl, rfl⟩, rfl⟩ := hW
  have hx : Phi rs ≤ 2663816 := hI.1.phi
  have hn3 := hN.1
  have htl3 : (rs 3).1 ≤ 4300 := by omega
  refine v_aload_n hX d_L_law_428 rfl rfl ?_
  refine v_aload_n hX d_L_law_429 rfl rfl ?_
  refine v_iload hX d_L_law_430 rfl ?_
  refine v_iconst (v := 1) hX d_L_law_432 (by decide) ?_
  refine v_iaddE (v := nI (i + 1)) hX d_L_law_433 (nI_add i 1) ?_
  refine v_snI hX hs (i := (i + 1)) (by omega) hL d_L_law_434 ?_
  refine v_aload_n hX d_L_law_435 rfl rfl ?_
  refine v_iload hX d_L_law_436 rfl ?_
  refine v_iconst (v := 2) hX d_L_law_438 (by decide) ?_
  refine v_iaddE (v := nI (i + 2)) hX d_L_law_439 (nI_add i 2) ?_
  refine v_snI hX hs (i := (i + 2)) (by omega) hL d_L_law_440 ?_
  refine c_V hX 0 (rest := []) hl (c_P_node2 hI hN hD hU hha hts (sc ((i + 1))) (sc ((i + 2)))) ml_L_68 im_P_node se_P_node in_P cd_P_node rfl q_P_node ⟨(Nat.le_of_ble_eq_true rfl), (Nat.le_of_ble_eq_true rfl)⟩ hD.1.1 hD.1.2.1 hD.1.2.2 rfl rfl rfl rfl (Nat.le_of_ble_eq_true rfl) d_L_law_441 ⟨by show _ + (120 + (2663816 - Phi rs) / 16) ≤ 601024; omega, by show _ + (700000 + (2663816 - Phi rs)) ≤ 7293034; omega⟩ (fun rv d2 lo2 va2 kc ns hp => ?_)
  obtain ⟨⟨v1, rfl, hv1⟩, rfl, rfl, rfl, rfl, rfl⟩ := hp
  show V X D CL A _ _ _ _ _ _ _ (.int v1 :: [])
  refine v_aload_n hX d_L_law_444 rfl rfl ?_
  refine v_aload_n hX d_L_law_445 rfl rfl ?_
  refine v_iload hX d_L_law_446 rfl ?_
  refine v_iconst (v := 1) hX d_L_law_448 (by decide) ?_
  refine v_iaddE (v := nI (i + 1)) hX d_L_law_449 (nI_add i 1) ?_
  refine v_snI hX hs (i := (i + 1)) (by omega) hL d_L_law_450 ?_
  refine v_aload_n hX d_L_law_451 rfl rfl ?_
  refine v_iload hX d_L_law_452 rfl ?_
  refine v_iconst (v := 2) hX d_L_law_454 (by decide) ?_
  refine v_iaddE (v := nI (i + 2)) hX d_L_law_455 (nI_add i 2) ?_
  refine v_snI hX hs (i := (i + 2)) (by omega) hL d_L_law_456 ?_
  refine c_V hX 48 (rest := [.int v1]) hl (c_M_node2 hM hO (sc ((i + 1))) (sc ((i + 2))) hTM) ml_L_71 im_M_node se_M_node in_M cd_M_node rfl q_M_node ⟨(Nat.le_of_ble_eq_true rfl), (Nat.le_of_ble_eq_true rfl)⟩ hM.1.1 hM.1.2.1 hM.1.2.2 rfl rfl rfl rfl (Nat.le_of_ble_eq_true rfl) d_L_law_457 ⟨by show _ + 0 ≤ 601024; omega, by show _ + 0 ≤ 7293034; omega⟩ (fun rv d2 lo2 va2 kc ns hp => ?_)
  obtain ⟨rfl, rfl, rfl, rfl, _, o2, ⟨⟨v2, rfl, hv2⟩, rfl⟩, hM2, hO2, hf2⟩ := hp
  show V X D CL A _ _ _ _ _ _ _ (.int v2 :: [.int v1])
  have hnd : v1 = v2 := by rw [hR.1.1] at hv2; exact NdA.eq hn3 hv1 hv2 (rel_node hR hV hTM)
  refine v_icmp_eq hX d_L_law_460 (tgt := 490) (by decide) (fun _ => ?_) (fun c => absurd (hnd) c)
  exact kk _ _ _ _ _ _ _ _ ⟨ob, td, ts, rs, sh, T, n, ha, ch, hp, C, M, o2, ⟨⟨(hI.frM hf2), (hN.frM hf2), (hD.frM hf2)⟩, ⟨hT, hU, hF⟩, ⟨hha, hts, hz4, htl, hch⟩, ⟨hM2, hO2.1, hTM, hTX⟩, ⟨g76, l76, _, ((hf2 76 (by omega)).trans v76)⟩, ⟨hR, hV⟩⟩, ⟨rfl, rfl, rfl⟩, rfl⟩ ⟨by omega, by omega⟩
set_option maxHeartbeats 4000000 in
set_option maxRecDepth 100000 in
theorem law_about {l : Launch} {X : KX} {D : va_G} {A : Nat → Prop} {cI cB cZ cJ cN : ClassId} {b L : Nat} {sc : Nat → Int32} {i cells slots a0 a48 a76 ph : Nat} {dom : Nat → Prop} {loc : Nat → Nat} {val : Nat → va_E} {o5 o6 : Option Value} (hX : OX X b_L_law 7 "ProsePagesLaw" TT D CL (TY cI cB cZ cJ cN) A room_1) (hl : X.2.1 = l) (htr : l.stackTraces = false) (hs : va_X b L sc (xs X) (xs X).heap ∧ b < (xs X).heap.size ∧ ¬ A b) (hL : L ≤ 3072) (hi : i + 6 ≤ L) (hW : LW9 cI cB cZ cJ cN a0 a48 a76 ph dom loc val) (hc : cells + 200 + (2663816 - ph) / 16 ≤ 601024) (hsl : slots + 700200 + (2663816 - ph) ≤ 7293034) (kk : KL9 X D A cI cB cZ cJ cN b a0 a48 a76 ph i cells slots) : V X D CL A dom loc val cells slots 465 [some (.ref b), some (.ref a0), some (.ref a48), some (.ref a76), some (.int (nI i)), o5, o6] [] := by
  obtain ⟨ob, td, ts, rs, sh, T, n, ha, ch, hp, C, M, O, ⟨⟨hI, hN, hD⟩, ⟨hT, hU, hF⟩, ⟨hha, hts, hz4, htl, hch⟩, ⟨hM, hO, hTM, hTX⟩, ⟨g76, l76, f76, v76⟩, hR, hV⟩, ⟨rfl, rfl, rfl⟩, rfl⟩ := hW
  have hx : Phi rs ≤ 2663816 := hI.1.phi
  have hn3 := hN.1
  have htl3 : (rs 3).1 ≤ 4300 := by omega
  refine v_aload_n hX d_L_law_465 rfl rfl ?_
  refine v_aload_n hX d_L_law_466 rfl rfl ?_
  refine v_iload hX d_L_law_467 rfl ?_
  refine v_iconst (v := 1) hX d_L_law_469 (by decide) ?_
  refine v_iaddE (v := nI (i + 1)) hX d_L_law_470 (nI_add i 1) ?_
  refine v_snI hX hs (i := (i + 1)) (by omega) hL d_L_law_471 ?_
  refine c_V hX 0 (rest := []) hl (c_P_about hI hN hD hU hha hts (sc ((i + 1)))) ml_L_72 im_P_about se_P_about in_P cd_P_about rfl q_P_about ⟨(Nat.le_of_ble_eq_true rfl), (Nat.le_of_ble_eq_true rfl)⟩ hD.1.1 hD.1.2.1 hD.1.2.2 rfl rfl rfl rfl (Nat.le_of_ble_eq_true rfl) d_L_law_472 ⟨by show _ + (120 + (2663816 - Phi rs) / 16) ≤ 601024; omega, by show _ + (700000 + (2663816 - Phi rs)) ≤ 7293034; omega⟩ (fun rv d2 lo2 va2 kc ns hp => ?_)
  obtain ⟨⟨v1, rfl⟩, rfl, rfl, rfl, rfl, rfl⟩ := hp
  show V X D CL A _ _ _ _ _ _ _ (.int v1 :: [])
  refine v_pop hX d_L_law_475 rfl ?_
  refine v_aload_n hX d_L_law_476 rfl rfl ?_
  refine v_aload_n hX d_L_law_477 rfl rfl ?_
  refine v_iload hX d_L_law_478 rfl ?_
  refine v_iconst (v := 1) hX d_L_law_480 (by decide) ?_
  refine v_iaddE (v := nI (i + 1)) hX d_L_law_481 (nI_add i 1) ?_
  refine v_snI hX hs (i := (i + 1)) (by omega) hL d_L_law_482 ?_
  refine c_V hX 48 (rest := []) hl (c_M_about hM hO (sc ((i + 1))) ) ml_L_75 im_M_about se_M_about in_M cd_M_about rfl q_M_about ⟨(Nat.le_of_ble_eq_true rfl), (Nat.le_of_ble_eq_true rfl)⟩ hM.1.1 hM.1.2.1 hM.1.2.2 rfl rfl rfl rfl (Nat.le_of_ble_eq_true rfl) d_L_law_483 ⟨by show _ + 0 ≤ 601024; omega, by show _ + 0 ≤ 7293034; omega⟩ (fun rv d2 lo2 va2 kc ns hp => ?_)
  obtain ⟨rfl, rfl, rfl, rfl, _, o2, ⟨⟨v2, rfl⟩, rfl⟩, hM2, hO2, hf2⟩ := hp
  show V X D CL A _ _ _ _ _ _ _ (.int v2 :: [])
  refine v_pop hX d_L_law_486 rfl ?_
  refine v_goto hX d_L_law_487 (tgt := 490) (by decide) ?_
  exact kk _ _ _ _ _ _ _ _ ⟨ob, td, ts, rs, sh, T, n, ha, ch, hp, C, M, o2, ⟨⟨(hI.frM hf2), (hN.frM hf2), (hD.frM hf2)⟩, ⟨hT, hU, hF⟩, ⟨hha, hts, hz4, htl, hch⟩, ⟨hM2, hO2.1, hTM, hTX⟩, ⟨g76, l76, _, ((hf2 76 (by omega)).trans v76)⟩, ⟨hR, hV⟩⟩, ⟨rfl, rfl, rfl⟩, rfl⟩ ⟨by omega, by omega⟩
set_option maxHeartbeats 4000000 in
set_option maxRecDepth 100000 in
theorem law_end {l : Launch} {X : KX} {D : va_G} {A : Nat → Prop} {cI cB cZ cJ cN : ClassId} {b L : Nat} {sc : Nat → Int32} {i cells slots a0 a48 a76 ph : Nat} {dom : Nat → Prop} {loc : Nat → Nat} {val : Nat → va_E} {o5 o6 : Option Value} (hX : OX X b_L_law 7 "ProsePagesLaw" TT D CL (TY cI cB cZ cJ cN) A room_1) (hl : X.2.1 = l) (htr : l.stackTraces = false) (hs : va_X b L sc (xs X) (xs X).heap ∧ b < (xs X).heap.size ∧ ¬ A b) (hL : L ≤ 3072) (hi : i + 6 ≤ L) (hW : LW9 cI cB cZ cJ cN a0 a48 a76 ph dom loc val) (hc : cells + 200 + (2663816 - ph) / 16 ≤ 601024) (hsl : slots + 700200 + (2663816 - ph) ≤ 7293034) (kk : KL9 X D A cI cB cZ cJ cN b a0 a48 a76 ph i cells slots) : V X D CL A dom loc val cells slots 140 [some (.ref b), some (.ref a0), some (.ref a48), some (.ref a76), some (.int (nI i)), o5, o6] [] := by
  obtain ⟨ob, td, ts, rs, sh, T, n, ha, ch, hp, C, M, O, ⟨⟨hI, hN, hD⟩, ⟨hT, hU, hF⟩, ⟨hha, hts, hz4, htl, hch⟩, ⟨hM, hO, hTM, hTX⟩, ⟨g76, l76, f76, v76⟩, hR, hV⟩, ⟨rfl, rfl, rfl⟩, rfl⟩ := hW
  have hx : Phi rs ≤ 2663816 := hI.1.phi
  have hn3 := hN.1
  have htl3 : (rs 3).1 ≤ 4300 := by omega
  obtain ⟨⟨r1, r2, r3⟩, ⟨r4, r5⟩, r6, r7⟩ := id hR
  by_cases c0 : ha = 0
  · have hu0 : tU T ha = none := by rw [c0]; exact r5
    have hm0 : ttHa M = 0 := by rw [r2]; exact c0
    refine v_aload_n hX d_L_law_140 rfl rfl ?_
    refine c_V hX 0 (rest := []) hl (p_end0 hI hN hD hU hha hts hu0) ml_L_34 im_P_end se_P_end in_P cd_P_end rfl q_P_end ⟨(Nat.le_of_ble_eq_true rfl), (Nat.le_of_ble_eq_true rfl)⟩ hD.1.1 hD.1.2.1 hD.1.2.2 rfl rfl rfl rfl (Nat.le_of_ble_eq_true rfl) d_L_law_141 ⟨by show _ + (120 + (2663816 - Phi rs) / 16) ≤ 601024; omega, by show _ + (700000 + (2663816 - Phi rs)) ≤ 7293034; omega⟩ (fun rv d2 lo2 va1 kc ns hp => ?_)
    obtain ⟨rfl, rfl, rfl, rfl, rfl, hfc, hI1, hN1, hD1⟩ := hp
    show V X D CL A _ _ _ _ _ _ _ (.int (-1) :: [])
    have hM1 := hM.frC hfc (fun _ _ => rfl) (fun _ h => h)
    have v761 := (hfc 76 (by omega) (by omega) (by omega)).2.trans v76
    refine v_pop hX d_L_law_144 rfl ?_
    refine v_aload_n hX d_L_law_145 rfl rfl ?_
    refine c_V hX 48 (rest := []) hl (m_end0 hM1 hO hTM hm0) ml_L_38 im_M_end se_M_end in_M cd_M_end rfl q_M_end ⟨(Nat.le_of_ble_eq_true rfl), (Nat.le_of_ble_eq_true rfl)⟩ hM1.1.1 hM1.1.2.1 hM1.1.2.2 rfl rfl rfl rfl (Nat.le_of_ble_eq_true rfl) d_L_law_146 ⟨by show _ + 0 ≤ 601024; omega, by show _ + 0 ≤ 7293034; omega⟩ (fun rv d2 lo2 va9 kc ns hp => ?_)
    obtain ⟨rfl, rfl, rfl, rfl, rfl, o9, hM9, hO9, hf9⟩ := hp
    show V X D CL A _ _ _ _ _ _ _ (.int (-1) :: [])
    refine v_pop hX d_L_law_149 rfl ?_
    refine v_goto hX d_L_law_150 (tgt := 490) (by decide) ?_
    exact kk _ _ _ _ _ _ _ _ ⟨ob, td, ts, rs, sh, T, n, ha, ch, hp, C, M, o9, ⟨⟨(hI1.frM hf9), (hN1.frM hf9), (hD1.frM hf9)⟩, ⟨hT, hU, hF⟩, ⟨hha, hts, hz4, htl, hch⟩, ⟨hM9, hO9, hTM, hTX⟩, ⟨g76, l76, _, ((hf9 76 (by omega)).trans v761)⟩, ⟨hR, hV⟩⟩, ⟨rfl, rfl, rfl⟩, rfl⟩ ⟨by omega, by omega⟩
  · have hu0 : tU T ha = some (pu M ha) := (r6 ha (by omega) hha).2
    have hm0 : ¬ ttHa M = 0 := by rw [r2]; exact c0
    refine v_aload_n hX d_L_law_140 rfl rfl ?_
    refine c_V hX 0 (rest := []) hl (p_endS hI hN hD hU hha hts hu0) ml_L_34 im_P_end se_P_end in_P cd_P_end rfl q_P_end ⟨(Nat.le_of_ble_eq_true rfl), (Nat.le_of_ble_eq_true rfl)⟩ hD.1.1 hD.1.2.1 hD.1.2.2 rfl rfl rfl rfl (Nat.le_of_ble_eq_true rfl) d_L_law_141 ⟨by show _ + (120 + (2663816 - Phi rs) / 16) ≤ 601024; omega, by show _ + (700000 + (2663816 - Phi rs)) ≤ 7293034; omega⟩ (fun rv d2 lo2 va1 kc ns hp => ?_)
    obtain ⟨rfl, rfl, rfl, rfl, rfl, hfc, hI1, hN1, hD1⟩ := hp
    show V X D CL A _ _ _ _ _ _ _ (.int (nI (pu M ha)) :: [])
    have hM1 := hM.frC hfc (fun _ _ => rfl) (fun _ h => h)
    have v761 := (hfc 76 (by omega) (by omega) (by omega)).2.trans v76
    refine v_pop hX d_L_law_144 rfl ?_
    refine v_aload_n hX d_L_law_145 rfl rfl ?_
    refine c_V hX 48 (rest := []) hl (m_endS hM1 hO hTM hm0) ml_L_38 im_M_end se_M_end in_M cd_M_end rfl q_M_end ⟨(Nat.le_of_ble_eq_true rfl), (Nat.le_of_ble_eq_true rfl)⟩ hM1.1.1 hM1.1.2.1 hM1.1.2.2 rfl rfl rfl rfl (Nat.le_of_ble_eq_true rfl) d_L_law_146 ⟨by show _ + 0 ≤ 601024; omega, by show _ + 0 ≤ 7293034; omega⟩ (fun rv d2 lo2 va9 kc ns hp => ?_)
    obtain ⟨rfl, rfl, rfl, rfl, rfl, o9, hM9, hO9, hf9⟩ := hp
    show V X D CL A _ _ _ _ _ _ _ (.int (nI (pu M (ttHa M))) :: [])
    refine v_pop hX d_L_law_149 rfl ?_
    refine v_goto hX d_L_law_150 (tgt := 490) (by decide) ?_
    exact kk _ _ _ _ _ _ _ _ ⟨ob, td, ts, rs, sh, T, n, (pu M ha), ch, hp, C, (sxHa M (pu M (ttHa M))), o9, ⟨⟨(hI1.frM hf9), (hN1.frM hf9), (hD1.frM hf9)⟩, ⟨hT, hU, hF⟩, ⟨Nat.lt_of_le_of_lt (hTM.pule (by omega)) hha, hts, hz4, htl, hch⟩, ⟨hM9, hO9, (end_ok hTM), hTX⟩, ⟨g76, l76, _, ((hf9 76 (by omega)).trans v761)⟩, ⟨(by rw [r2]; exact rel_ha hR _), hV⟩⟩, ⟨rfl, rfl, rfl⟩, rfl⟩ ⟨by omega, by omega⟩
