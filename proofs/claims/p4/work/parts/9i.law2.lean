set_option maxHeartbeats 4000000 in
set_option maxRecDepth 100000 in
theorem law_clear {l : Launch} {X : KX} {D : va_G} {A : Nat → Prop} {cI cB cZ cJ cN : ClassId} {b L : Nat} {sc : Nat → Int32} {i cells slots a0 a48 a76 ph : Nat} {dom : Nat → Prop} {loc : Nat → Nat} {val : Nat → va_E} {o5 o6 : Option Value} (hX : OX X b_L_law 7 "ProsePagesLaw" TT D CL (TY cI cB cZ cJ cN) A room_1) (hl : X.2.1 = l) (htr : l.stackTraces = false) (hs : va_X b L sc (xs X) (xs X).heap ∧ b < (xs X).heap.size ∧ ¬ A b) (hL : L ≤ 3072) (hi : i + 6 ≤ L) (hW : LW9 cI cB cZ cJ cN a0 a48 a76 ph dom loc val) (hc : cells + 200 + (2663816 - ph) / 16 ≤ 601024) (hsl : slots + 700200 + (2663816 - ph) ≤ 7293034) (kk : KL9 X D A cI cB cZ cJ cN b a0 a48 a76 ph i cells slots) : V X D CL A dom loc val cells slots 257 [some (.ref b), some (.ref a0), some (.ref a48), some (.ref a76), some (.int (nI i)), o5, o6] [] := by
  obtain ⟨ob, td, ts, rs, sh, T, n, ha, ch, hp, C, M, O, ⟨⟨hI, hN, hD⟩, ⟨hT, hU, hF⟩, ⟨hha, hts, hz4, htl, hch⟩, ⟨hM, hO, hTM, hTX⟩, ⟨g76, l76, f76, v76⟩, hR⟩, ⟨rfl, rfl, rfl⟩, rfl⟩ := hW
  have hx : Phi rs ≤ 2663816 := hI.1.phi
  have hn3 := hN.1
  have htl3 : (rs 3).1 ≤ 4300 := by omega
  refine v_aload_n hX d_L_law_257 rfl rfl ?_
  refine c_V hX 0 (rest := []) hl (c_P_clear hI hN hD hU hha hts) ml_L_46 im_P_clear se_P_clear in_P cd_P_clear rfl q_P_clear ⟨(Nat.le_of_ble_eq_true rfl), (Nat.le_of_ble_eq_true rfl)⟩ hD.1.1 hD.1.2.1 hD.1.2.2 rfl rfl rfl rfl (Nat.le_of_ble_eq_true rfl) d_L_law_258 ⟨by show _ + (120 + (2663816 - Phi rs) / 16) ≤ 601024; omega, by show _ + (700000 + (2663816 - Phi rs)) ≤ 7293034; omega⟩ (fun rv d2 lo2 va2 kc2 ns2 hp => ?_)
  obtain ⟨rfl, ob, hobk, hdm, ⟨rs2, hI2, hs2, ho2, hpa, hpb⟩, hN2, hD2, hf2⟩ := hp
  show V X D CL A _ _ _ _ _ _ _ []
  rw [← hobk 0 (by omega), ← hobk 48 (by omega), ← hobk 76 (by omega)]
  have hx2 : Phi rs2 ≤ 2663816 := hI2.1.phi
  have hM2 := hM.frC (ob2 := ob) (dom2 := d2) hf2 (fun k hk => hobk k (by omega)) (fun k h => (hdm k).mpr (Or.inr h))
  have k76 := hf2 76 (by omega) (by omega) (by omega)
  refine v_aload_n hX d_L_law_261 rfl rfl ?_
  refine c_V hX 48 (rest := []) hl (c_M_clear hM2 hO) ml_L_49 im_M_clear se_M_clear in_M cd_M_clear rfl q_M_clear ⟨(Nat.le_of_ble_eq_true rfl), (Nat.le_of_ble_eq_true rfl)⟩ hM2.1.1 hM2.1.2.1 hM2.1.2.2 rfl rfl rfl rfl (Nat.le_of_ble_eq_true rfl) d_L_law_262 ⟨by show _ + 0 ≤ 601024; omega, by show _ + 0 ≤ 7293034; omega⟩ (fun rv d3 lo3 va9 kc ns hp => ?_)
  obtain ⟨rfl, rfl, rfl, rfl, _, o9, ⟨rfl, rfl⟩, hM9, hO9, hf9⟩ := hp
  show V X D CL A _ _ _ _ _ _ _ []
  refine v_goto hX d_L_law_265 (tgt := 518) (by decide) ?_
  rw [hobk 0 (by omega), hobk 48 (by omega), hobk 76 (by omega)]
  obtain ⟨tc1, tc2⟩ := clT_ok (T := M) hTM.2.1.2.2.1 hTX.1
  exact kk _ _ _ _ _ _ _ _ ⟨ob, td, ts, rs2, sh, T0, 1, 0, 0, 0, C, (clT M), o9, ⟨⟨(hI2.frM hf9), (hN2.frM hf9), (hD2.frM hf9)⟩, ⟨T0_ok.1, T0_ok.2, (fun i j _ h => nomatch h)⟩, ⟨by omega, hts, Z4_of hz4 ho2, by omega, by omega⟩, ⟨hM9, hO9, tc1, tc2⟩, ⟨((hdm 76).mpr (Or.inr g76)), ((k76.1.trans l76).trans (hobk 76 (by omega)).symm), _, ((hf9 76 (by omega)).trans (k76.2.trans v76))⟩, (rel_cl M)⟩, ⟨hobk 0 (by omega), hobk 48 (by omega), hobk 76 (by omega)⟩, rfl⟩ ⟨by omega, by omega⟩
set_option maxHeartbeats 4000000 in
set_option maxRecDepth 100000 in
theorem law_begin {l : Launch} {X : KX} {D : va_G} {A : Nat → Prop} {cI cB cZ cJ cN : ClassId} {b L : Nat} {sc : Nat → Int32} {i cells slots a0 a48 a76 ph : Nat} {dom : Nat → Prop} {loc : Nat → Nat} {val : Nat → va_E} {o5 o6 : Option Value} (hX : OX X b_L_law 7 "ProsePagesLaw" TT D CL (TY cI cB cZ cJ cN) A room_1) (hl : X.2.1 = l) (htr : l.stackTraces = false) (hs : va_X b L sc (xs X) (xs X).heap ∧ b < (xs X).heap.size ∧ ¬ A b) (hL : L ≤ 3072) (hi : i + 6 ≤ L) (hW : LW9 cI cB cZ cJ cN a0 a48 a76 ph dom loc val) (hc : cells + 200 + (2663816 - ph) / 16 ≤ 601024) (hsl : slots + 700200 + (2663816 - ph) ≤ 7293034) (kk : KL9 X D A cI cB cZ cJ cN b a0 a48 a76 ph i cells slots) : V X D CL A dom loc val cells slots 100 [some (.ref b), some (.ref a0), some (.ref a48), some (.ref a76), some (.int (nI i)), o5, o6] [] := by
  obtain ⟨ob, td, ts, rs, sh, T, n, ha, ch, hp, C, M, O, ⟨⟨hI, hN, hD⟩, ⟨hT, hU, hF⟩, ⟨hha, hts, hz4, htl, hch⟩, ⟨hM, hO, hTM, hTX⟩, ⟨g76, l76, f76, v76⟩, hR⟩, ⟨rfl, rfl, rfl⟩, rfl⟩ := hW
  have hx : Phi rs ≤ 2663816 := hI.1.phi
  have hn3 := hN.1
  have htl3 : (rs 3).1 ≤ 4300 := by omega
  refine v_aload_n hX d_L_law_100 rfl rfl ?_
  refine v_aload_n hX d_L_law_101 rfl rfl ?_
  refine v_iload hX d_L_law_102 rfl ?_
  refine v_iconst (v := 1) hX d_L_law_104 (by decide) ?_
  refine v_iaddE (v := nI (i + 1)) hX d_L_law_105 (nI_add i 1) ?_
  refine v_snI hX hs (i := (i + 1)) (by omega) hL d_L_law_106 ?_
  refine v_aload_n hX d_L_law_107 rfl rfl ?_
  refine v_iload hX d_L_law_108 rfl ?_
  refine v_iconst (v := 2) hX d_L_law_110 (by decide) ?_
  refine v_iaddE (v := nI (i + 2)) hX d_L_law_111 (nI_add i 2) ?_
  refine v_snI hX hs (i := (i + 2)) (by omega) hL d_L_law_112 ?_
  refine v_aload_n hX d_L_law_113 rfl rfl ?_
  have h0 : dom 0 ∧ loc 0 = ob 0 ∧ val 0 = .inr (4, [.ref (ob 1), .ref (ob 2), .ref (ob (1000 + 0)), .ref (ob (1000 + ha)), .int (nI n), .int (nI ch), .ref (ob ts), .int hp]) := hD.1
  have hK9 := c_L_begin (l := l) (D := D) (A := A) (cI := cI) (cB := cB) (cZ := cZ) (cJ := cJ) (cN := cN) (a76 := ob 76) (ph := Phi rs) (sc ((i + 1))) (sc ((i + 2))) (c_P_begin hI hN hD hU hha hts hT htl3 htr (sc ((i + 1))) (sc ((i + 2)))) h0 ?hK ?hKT
  case hK =>
    intro rv d lo va k9 n9 h
    obtain ⟨-, rfl, ob2, rs2, hobk, hdm, hI2, -, -, -, ⟨ha1, ha2⟩, hf2⟩ := h
    have k76 := hf2 76 (by omega) (by omega) (by omega)
    have hx2 : Phi rs2 ≤ 2663816 := hI2.1.phi
    exact ⟨⟨_, rfl⟩, ⟨(hdm 76).mpr (Or.inr g76), k76.1.trans l76, f76, k76.2.trans v76⟩, by omega, by omega⟩
  case hKT =>
    intro E d lo va k9 n9 h
    obtain ⟨h1, -, -, -, -, rfl, rfl⟩ := h
    exact ⟨h1, by omega, by omega⟩
  refine c_SW hX (rest := []) hl hK9 ml_L_28 sm_L_begin in_L cd_L_begin q_L_begin ⟨(Nat.le_of_ble_eq_true rfl), (Nat.le_of_ble_eq_true rfl)⟩ rfl rfl rfl (Nat.le_of_ble_eq_true rfl) d_L_law_114 ⟨by show _ + (140 + (2663816 - Phi rs) / 16) ≤ 601024; omega, by show _ + (700100 + (2663816 - Phi rs)) ≤ 7293034; omega⟩ (fun rv d2 lo2 va2 kc2 ns2 hp9 => ?_)
  rcases hp9 with ⟨v0, va0, f9, hpost, rfl, rfl, hq9⟩ | ⟨E, hpt, rfl⟩
  · show V X D CL A _ _ _ _ _ _ _ [.int 0]
    obtain ⟨hok, hrv, ob, rs2, hobk, hdm, hI2, ⟨hs2, ho2⟩, hN2, hD2, ⟨ha1, ha2⟩, hf2⟩ := hpost
    cases hrv
    rw [← hobk 0 (by omega), ← hobk 48 (by omega), ← hobk 76 (by omega)]
    have hx2 : Phi rs2 ≤ 2663816 := hI2.1.phi
    have k76 := hf2 76 (by omega) (by omega) (by omega)
    have hM2 := (hM.frC (ob2 := ob) (dom2 := d2) hf2 (fun k hk => hobk k (by omega)) (fun k h => (hdm k).mpr (Or.inr h))).o76 (.inl (cJ, 1, .inr (.inl f9)))
    have hgd := (rel_ok hR hTM (sc (i + 1)) (sc (i + 2))).mp hok
    have hrm := okB_room (T := T) (n := n) (ha := ha) (k := 0) (x := 0) hok.1
    have hti := tk_I hT hF hha hrm.2 (sc (i + 1)) (bgN (sc (i + 1)) (sc (i + 2)))
    have hbg := bg_ok hTM hTX hgd.1 hgd.2
    have hD2o := hD2.oth (k := 76) (by omega) (.inl (cJ, 1, .inr (.inl f9)))
    refine v_istore (lv' := [some (.ref b), some (.ref (ob 0)), some (.ref (ob 48)), some (.ref (ob 76)), some (.int (nI i)), some (.int 0), o6]) hX d_L_law_117 (Nat.le_of_ble_eq_true rfl) rfl ?_
    refine v_aload_n hX d_L_law_119 rfl rfl ?_
    refine v_aload_n hX d_L_law_120 rfl rfl ?_
    refine v_iload hX d_L_law_121 rfl ?_
    refine v_iconst (v := 1) hX d_L_law_123 (by decide) ?_
    refine v_iaddE (v := nI (i + 1)) hX d_L_law_124 (nI_add i 1) ?_
    refine v_snI hX hs (i := (i + 1)) (by omega) hL d_L_law_125 ?_
    refine v_aload_n hX d_L_law_126 rfl rfl ?_
    refine v_iload hX d_L_law_127 rfl ?_
    refine v_iconst (v := 2) hX d_L_law_129 (by decide) ?_
    refine v_iaddE (v := nI (i + 2)) hX d_L_law_130 (nI_add i 2) ?_
    refine v_snI hX hs (i := (i + 2)) (by omega) hL d_L_law_131 ?_
    refine c_V hX 48 (rest := []) hl (m_begin_ok hM2 hO (sc ((i + 1))) (sc ((i + 2))) hTM hgd) ml_L_33 im_M_begin se_M_begin in_M cd_M_begin rfl q_M_begin ⟨(Nat.le_of_ble_eq_true rfl), (Nat.le_of_ble_eq_true rfl)⟩ hM2.1.1 hM2.1.2.1 hM2.1.2.2 rfl rfl rfl rfl (Nat.le_of_ble_eq_true rfl) d_L_law_132 ⟨by show _ + 0 ≤ 601024; omega, by show _ + 0 ≤ 7293034; omega⟩ (fun rv d3 lo3 va9 kc ns hp => ?_)
    obtain ⟨⟨v8, rfl⟩, rfl, rfl, rfl, rfl, o9, hM9, hO9, hf9⟩ := hp
    show V X D CL A _ _ _ _ _ _ _ (.int v8 :: [])
    refine v_istore (lv' := [some (.ref b), some (.ref (ob 0)), some (.ref (ob 48)), some (.ref (ob 76)), some (.int (nI i)), some (.int 0), some (.int v8)]) hX d_L_law_135 (Nat.le_of_ble_eq_true rfl) rfl ?_
    refine v_goto hX d_L_law_137 (tgt := 518) (by decide) ?_
    rw [hobk 0 (by omega), hobk 48 (by omega), hobk 76 (by omega)]
    exact kk _ _ _ _ _ _ _ _ ⟨ob, td, ts, rs2, sh, (tkT (exT T n ha (sc (i + 1)) (bgN (sc (i + 1)) (sc (i + 2)))) ha n), (n + 1), (if (sc (i + 1)) = 2 ∨ (sc (i + 1)) = 9 then ha else n), ch, hp, C, (bgT M (sc (i + 1)) (sc (i + 2))), o9, ⟨⟨((hI2.oth (Or.inr (by omega)) _).frM hf9), ((hN2.oth (by omega) _).frM hf9), (hD2o.frM hf9)⟩, ⟨hti.1, tk_U hU hha _ _, hti.2⟩, ⟨by split <;> omega, hts, Z4_of hz4 ho2, by rw [hs2]; split <;> omega, hch⟩, ⟨hM9, hO9, hbg.1, hbg.2⟩, ⟨((hdm 76).mpr (Or.inr g76)), ((k76.1.trans l76).trans (hobk 76 (by omega)).symm), _, ((hf9 76 (by omega)).trans kup_self)⟩, (rel_begin hR hTM _ _)⟩, ⟨hobk 0 (by omega), hobk 48 (by omega), hobk 76 (by omega)⟩, rfl⟩ ⟨by omega, by omega⟩
  · show V X D CL A _ _ _ _ _ _ _ [.int (if E = "java/lang/IllegalStateException" then 1 else 2)]
    obtain ⟨v9, hv9⟩ : ∃ z : Int32, z = (if E = "java/lang/IllegalStateException" then 1 else 2) := ⟨_, rfl⟩
    rw [← hv9]
    have hnz : ¬ v9 = 0 := by rw [hv9]; split <;> decide
    obtain ⟨-, hno, rfl, rfl, rfl, rfl, rfl⟩ := hpt
    have hng := fun q => hno ((rel_ok hR hTM (sc (i + 1)) (sc (i + 2))).mpr q)
    refine v_istore (lv' := [some (.ref b), some (.ref (ob 0)), some (.ref (ob 48)), some (.ref (ob 76)), some (.int (nI i)), some (.int v9), o6]) hX d_L_law_117 (Nat.le_of_ble_eq_true rfl) rfl ?_
    refine v_aload_n hX d_L_law_119 rfl rfl ?_
    refine v_aload_n hX d_L_law_120 rfl rfl ?_
    refine v_iload hX d_L_law_121 rfl ?_
    refine v_iconst (v := 1) hX d_L_law_123 (by decide) ?_
    refine v_iaddE (v := nI (i + 1)) hX d_L_law_124 (nI_add i 1) ?_
    refine v_snI hX hs (i := (i + 1)) (by omega) hL d_L_law_125 ?_
    refine v_aload_n hX d_L_law_126 rfl rfl ?_
    refine v_iload hX d_L_law_127 rfl ?_
    refine v_iconst (v := 2) hX d_L_law_129 (by decide) ?_
    refine v_iaddE (v := nI (i + 2)) hX d_L_law_130 (nI_add i 2) ?_
    refine v_snI hX hs (i := (i + 2)) (by omega) hL d_L_law_131 ?_
    refine c_V hX 48 (rest := []) hl (m_begin_no hM hO (sc ((i + 1))) (sc ((i + 2))) hTM hng) ml_L_33 im_M_begin se_M_begin in_M cd_M_begin rfl q_M_begin ⟨(Nat.le_of_ble_eq_true rfl), (Nat.le_of_ble_eq_true rfl)⟩ hM.1.1 hM.1.2.1 hM.1.2.2 rfl rfl rfl rfl (Nat.le_of_ble_eq_true rfl) d_L_law_132 ⟨by show _ + 0 ≤ 601024; omega, by show _ + 0 ≤ 7293034; omega⟩ (fun rv d3 lo3 va9 kc ns hp => ?_)
    obtain ⟨⟨v8, rfl⟩, rfl, rfl, rfl, rfl, o9, hM9, hO9, hf9⟩ := hp
    show V X D CL A _ _ _ _ _ _ _ (.int v8 :: [])
    refine v_istore (lv' := [some (.ref b), some (.ref (ob 0)), some (.ref (ob 48)), some (.ref (ob 76)), some (.int (nI i)), some (.int v9), some (.int v8)]) hX d_L_law_135 (Nat.le_of_ble_eq_true rfl) rfl ?_
    refine v_goto hX d_L_law_137 (tgt := 518) (by decide) ?_
    exact kk _ _ _ _ _ _ _ _ ⟨ob, td, ts, rs, sh, T, n, ha, ch, hp, C, M, o9, ⟨⟨(hI.frM hf9), (hN.frM hf9), (hD.frM hf9)⟩, ⟨hT, hU, hF⟩, ⟨hha, hts, hz4, htl, hch⟩, ⟨hM9, hO9, hTM, hTX⟩, ⟨g76, l76, _, ((hf9 76 (by omega)).trans v76)⟩, hR⟩, ⟨rfl, rfl, rfl⟩, rfl⟩ ⟨by omega, by omega⟩
