set_option maxHeartbeats 4000000 in
set_option maxRecDepth 100000 in
theorem law_say {l : Launch} {X : KX} {D : va_G} {A : Nat → Prop} {cI cB cZ cJ cN : ClassId} {b L : Nat} {sc : Nat → Int32} {i cells slots a0 a48 a76 ph : Nat} {dom : Nat → Prop} {loc : Nat → Nat} {val : Nat → va_E} {o5 o6 : Option Value} (hX : OX X b_L_law 7 "ProsePagesLaw" TT D CL (TY cI cB cZ cJ cN) A room_1) (hl : X.2.1 = l) (htr : l.stackTraces = false) (hs : va_X b L sc (xs X) (xs X).heap ∧ b < (xs X).heap.size ∧ ¬ A b) (hL : L ≤ 3072) (hi : i + 6 ≤ L) (hW : LW9 cI cB cZ cJ cN a0 a48 a76 ph dom loc val) (hc : cells + 200 + (2663816 - ph) / 16 ≤ 601024) (hsl : slots + 700200 + (2663816 - ph) ≤ 7293034) (kk : KL9 X D A cI cB cZ cJ cN b a0 a48 a76 ph i cells slots) : V X D CL A dom loc val cells slots 153 [some (.ref b), some (.ref a0), some (.ref a48), some (.ref a76), some (.int (nI i)), o5, o6] [] := by
  obtain ⟨ob, td, ts, rs, sh, T, n, ha, ch, hp, C, M, O, ⟨⟨hI, hN, hD⟩, ⟨hT, hU, hF⟩, ⟨hha, hts, hz4, htl, hch⟩, ⟨hM, hO, hTM, hTX⟩, ⟨g76, l76, f76, v76⟩, hR⟩, ⟨rfl, rfl, rfl⟩, rfl⟩ := hW
  have hx : Phi rs ≤ 2663816 := hI.1.phi
  have hn3 := hN.1
  have htl3 : (rs 3).1 ≤ 4300 := by omega
  refine v_aload_n hX d_L_law_153 rfl rfl ?_
  refine v_aload_n hX d_L_law_154 rfl rfl ?_
  refine v_iload hX d_L_law_155 rfl ?_
  refine v_iconst (v := 1) hX d_L_law_157 (by decide) ?_
  refine v_iaddE (v := nI (i + 1)) hX d_L_law_158 (nI_add i 1) ?_
  refine v_snI hX hs (i := (i + 1)) (by omega) hL d_L_law_159 ?_
  refine v_aload_n hX d_L_law_160 rfl rfl ?_
  refine v_iload hX d_L_law_161 rfl ?_
  refine v_iconst (v := 2) hX d_L_law_163 (by decide) ?_
  refine v_iaddE (v := nI (i + 2)) hX d_L_law_164 (nI_add i 2) ?_
  refine v_snI hX hs (i := (i + 2)) (by omega) hL d_L_law_165 ?_
  refine v_aload_n hX d_L_law_166 rfl rfl ?_
  refine v_iload hX d_L_law_167 rfl ?_
  refine v_iconst (v := 3) hX d_L_law_169 (by decide) ?_
  refine v_iaddE (v := nI (i + 3)) hX d_L_law_170 (nI_add i 3) ?_
  refine v_snI hX hs (i := (i + 3)) (by omega) hL d_L_law_171 ?_
  refine v_aload_n hX d_L_law_172 rfl rfl ?_
  refine v_iload hX d_L_law_173 rfl ?_
  refine v_iconst (v := 4) hX d_L_law_175 (by decide) ?_
  refine v_iaddE (v := nI (i + 4)) hX d_L_law_176 (nI_add i 4) ?_
  refine v_snI hX hs (i := (i + 4)) (by omega) hL d_L_law_177 ?_
  refine v_aload_n hX d_L_law_178 rfl rfl ?_
  refine v_iload hX d_L_law_179 rfl ?_
  refine v_iconst (v := 5) hX d_L_law_181 (by decide) ?_
  refine v_iaddE (v := nI (i + 5)) hX d_L_law_182 (nI_add i 5) ?_
  refine v_snI hX hs (i := (i + 5)) (by omega) hL d_L_law_183 ?_
  refine v_aload_n hX d_L_law_184 rfl rfl ?_
  have h0 : dom 0 ∧ loc 0 = ob 0 ∧ val 0 = .inr (4, [.ref (ob 1), .ref (ob 2), .ref (ob (1000 + 0)), .ref (ob (1000 + ha)), .int (nI n), .int (nI ch), .ref (ob ts), .int hp]) := hD.1
  have hK9 := c_L_say (l := l) (D := D) (A := A) (cI := cI) (cB := cB) (cZ := cZ) (cJ := cJ) (cN := cN) (a76 := ob 76) (ph := Phi rs) (sc ((i + 1))) (sc ((i + 2))) (sc ((i + 3))) (sc ((i + 4))) (sc ((i + 5))) (c_P_say2 hI hN hD hU hha hts hT htl3 htr (sc ((i + 1))) (sc ((i + 2))) (sc ((i + 3))) (sc ((i + 4))) (sc ((i + 5))) hch) h0 ?hK ?hKT
  case hK =>
    intro rv d lo va k9 n9 h
    obtain ⟨-, nn, -, h⟩ := h
    rcases h with ⟨-, rfl, ob2, rs2, hobk, hdm, hI2, -, -, -, ⟨ha1, ha2⟩, hf2⟩ | ⟨j, -, -, rfl, rfl, rs2, hI2, -, -, -, ⟨ha1, ha2⟩, hf2⟩
    · have k76 := hf2 76 (by omega) (by omega) (by omega)
      have hx2 : Phi rs2 ≤ 2663816 := hI2.1.phi
      exact ⟨⟨_, rfl⟩, ⟨(hdm 76).mpr (Or.inr g76), k76.1.trans l76, f76, k76.2.trans v76⟩, by omega, by omega⟩
    · have k76 := hf2 76 (by omega) (by omega) (by omega)
      have hx2 : Phi rs2 ≤ 2663816 := hI2.1.phi
      exact ⟨⟨_, rfl⟩, ⟨g76, k76.1.trans l76, f76, k76.2.trans v76⟩, by omega, by omega⟩
  case hKT =>
    intro E d lo va k9 n9 h
    obtain ⟨h1, -, -, -, -, rfl, rfl⟩ := h
    exact ⟨h1.imp And.left And.left, by omega, by omega⟩
  refine c_SW hX (rest := []) hl hK9 ml_L_39 sm_L_say in_L cd_L_say q_L_say ⟨(Nat.le_of_ble_eq_true rfl), (Nat.le_of_ble_eq_true rfl)⟩ rfl rfl rfl (Nat.le_of_ble_eq_true rfl) d_L_law_185 ⟨by show _ + (140 + (2663816 - Phi rs) / 16) ≤ 601024; omega, by show _ + (700100 + (2663816 - Phi rs)) ≤ 7293034; omega⟩ (fun rv d2 lo2 va2 kc2 ns2 hp9 => ?_)
  rcases hp9 with ⟨v0, va0, f9, hpost, rfl, rfl, hq9⟩ | ⟨E, hpt, rfl⟩
  · show V X D CL A _ _ _ _ _ _ _ [.int 0]
    obtain ⟨hok, nn, ⟨hy, hn1, hn2⟩, hsc⟩ := hpost
    have hsy := (rel_sy hR hTM (sc (i + 5))).mp hok
    have hc4 := hok.2.2.2.1
    rw [hy] at hsy hc4
    rw [nI_clamp (by omega)] at hc4
    obtain ⟨⟨r1, r2, r3⟩, ⟨r4, r5⟩, r6, r7⟩ := id hR
    rcases hsc with ⟨han, hrv, ob, rs2, hobk, hdm, hI2, ⟨hs2, ho2⟩, hN2, hD2, ⟨ha1, ha2⟩, hf2⟩ | ⟨j, hlj, hkj, hrv, rfl, rs2, hI2, ⟨hs2, ho2⟩, hN2, hD2, ⟨ha1, ha2⟩, hf2⟩
    · cases hrv
      rw [← hobk 0 (by omega), ← hobk 48 (by omega), ← hobk 76 (by omega)]
      have hx2 : Phi rs2 ≤ 2663816 := hI2.1.phi
      have k76 := hf2 76 (by omega) (by omega) (by omega)
      have hD2o := hD2.oth (k := 76) (by omega) (.inl (cJ, 1, .inr (.inl f9)))
      have hM2 := (hM.frC (ob2 := ob) (dom2 := d2) hf2 (fun k hk => hobk k (by omega)) (fun k h => (hdm k).mpr (Or.inr h))).o76 (.inl (cJ, 1, .inr (.inl f9)))
      have hanM := (rel_an hR hTM).mp han
      have hfl := hsy.2.2.2.2 hanM
      have hrm := fl_room hTM hfl
      have hdT : tD T ha < 12 := by rw [(r7 ha hha).1, ← r2]; exact hrm.2
      have hti := tk_I hT hF hha hdT 10 0
      have had := adT_ok hTM (k := 10) (n := 0) hrm.1 hrm.2 hsy.2.2.1 (by decide) (fun z => absurd z (by decide))
      have hadX := hTX.ad hTM 10 0
      have eadN := (adT_f M 10 0).1
      have eadC := (adT_f M 10 0).2.2.1
      have hra := rel_ad hR hTM 10 0 0
      refine v_istore (lv' := [some (.ref b), some (.ref (ob 0)), some (.ref (ob 48)), some (.ref (ob 76)), some (.int (nI i)), some (.int 0), o6]) hX d_L_law_188 (Nat.le_of_ble_eq_true rfl) rfl ?_
      refine v_aload_n hX d_L_law_190 rfl rfl ?_
      refine v_aload_n hX d_L_law_191 rfl rfl ?_
      refine v_iload hX d_L_law_192 rfl ?_
      refine v_iconst (v := 1) hX d_L_law_194 (by decide) ?_
      refine v_iaddE (v := nI (i + 1)) hX d_L_law_195 (nI_add i 1) ?_
      refine v_snI hX hs (i := (i + 1)) (by omega) hL d_L_law_196 ?_
      refine v_aload_n hX d_L_law_197 rfl rfl ?_
      refine v_iload hX d_L_law_198 rfl ?_
      refine v_iconst (v := 2) hX d_L_law_200 (by decide) ?_
      refine v_iaddE (v := nI (i + 2)) hX d_L_law_201 (nI_add i 2) ?_
      refine v_snI hX hs (i := (i + 2)) (by omega) hL d_L_law_202 ?_
      refine v_aload_n hX d_L_law_203 rfl rfl ?_
      refine v_iload hX d_L_law_204 rfl ?_
      refine v_iconst (v := 3) hX d_L_law_206 (by decide) ?_
      refine v_iaddE (v := nI (i + 3)) hX d_L_law_207 (nI_add i 3) ?_
      refine v_snI hX hs (i := (i + 3)) (by omega) hL d_L_law_208 ?_
      refine v_aload_n hX d_L_law_209 rfl rfl ?_
      refine v_iload hX d_L_law_210 rfl ?_
      refine v_iconst (v := 4) hX d_L_law_212 (by decide) ?_
      refine v_iaddE (v := nI (i + 4)) hX d_L_law_213 (nI_add i 4) ?_
      refine v_snI hX hs (i := (i + 4)) (by omega) hL d_L_law_214 ?_
      refine v_aload_n hX d_L_law_215 rfl rfl ?_
      refine v_iload hX d_L_law_216 rfl ?_
      refine v_iconst (v := 5) hX d_L_law_218 (by decide) ?_
      refine v_iaddE (v := nI (i + 5)) hX d_L_law_219 (nI_add i 5) ?_
      refine v_snI hX hs (i := (i + 5)) (by omega) hL d_L_law_220 ?_
      have hms := m_say_an2 (l := l) (D := D) (A := A) (cJ := cJ) (cN := cN) hM2 hO (sc ((i + 1))) (sc ((i + 2))) (sc ((i + 3))) (sc ((i + 4))) (nn := nn) hn2 hTM hTX hsy hanM
      rw [← hy] at hms
      refine c_V hX 48 (rest := []) hl (hms) ml_L_42 im_M_say se_M_say in_M cd_M_say rfl q_M_say ⟨(Nat.le_of_ble_eq_true rfl), (Nat.le_of_ble_eq_true rfl)⟩ hM2.1.1 hM2.1.2.1 hM2.1.2.2 rfl rfl rfl rfl (Nat.le_of_ble_eq_true rfl) d_L_law_221 ⟨by show _ + 0 ≤ 601024; omega, by show _ + 0 ≤ 7293034; omega⟩ (fun rv d3 lo3 va9 kc ns hp => ?_)
      obtain ⟨rfl, rfl, rfl, rfl, rfl, te9, o9, hth, hM9, hO9, hf9⟩ := hp
      show V X D CL A _ _ _ _ _ _ _ (.int (nI (ttN M)) :: [])
      refine v_istore (lv' := [some (.ref b), some (.ref (ob 0)), some (.ref (ob 48)), some (.ref (ob 76)), some (.int (nI i)), some (.int 0), some (.int (nI (ttN M)))]) hX d_L_law_224 (Nat.le_of_ble_eq_true rfl) rfl ?_
      refine v_aload_n hX d_L_law_226 rfl rfl ?_
      refine c_V hX 48 (rest := []) hl (c_M_thrown hM9) ml_L_43 im_M_thrown se_M_thrown in_M cd_M_thrown rfl q_M_thrown ⟨(Nat.le_of_ble_eq_true rfl), (Nat.le_of_ble_eq_true rfl)⟩ hM9.1.1 hM9.1.2.1 hM9.1.2.2 rfl rfl rfl rfl (Nat.le_of_ble_eq_true rfl) d_L_law_227 ⟨by show _ + 0 ≤ 601024; omega, by show _ + 0 ≤ 7293034; omega⟩ (fun rv d2 lo2 va2 kc ns hp => ?_)
      obtain ⟨rfl, rfl, rfl, rfl, rfl, rfl⟩ := hp
      show V X D CL A _ _ _ _ _ _ _ (.int (ooTh o9) :: [])
      refine v_iload hX d_L_law_230 rfl ?_
      refine v_icmp_eq hX d_L_law_232 (tgt := 237) (by decide) (fun _ => ?_) (fun c => absurd (hth) c)
      refine v_iload hX d_L_law_237 rfl ?_
      refine v_if_ne hX d_L_law_239 (tgt := 254) (by decide) (fun c => absurd (by decide) c) (fun _ => ?_)
      refine v_aload_n hX d_L_law_242 rfl rfl ?_
      refine v_iconst (v := 0) hX d_L_law_243 (by decide) ?_
      refine v_lald hX 76 3 (v := (nI n).toInt64) ((hdm 76).mpr (Or.inr g76)) ((k76.1.trans l76).trans (hobk 76 (by omega)).symm) ((hf9 76 (by omega)).trans kup_self) rfl (vpb (by decide)) hq9 d_L_law_244 ?_
      refine v_iload hX d_L_law_245 rfl ?_
      refine v_i2l (v := ((nI (ttN M))).toInt64) hX d_L_law_247 rfl ?_
      refine v_lcmp hX d_L_law_248 ?_
      refine v_if_eq hX d_L_law_249 (tgt := 254) (by decide) (fun _ => ?_) (fun c => absurd (by first | exact lg_self _ | (rw [hR.1.1]; exact lg_self _)) c)
      refine v_goto hX d_L_law_254 (tgt := 518) (by decide) ?_
      rw [hobk 0 (by omega), hobk 48 (by omega), hobk 76 (by omega)]
      exact kk _ _ _ _ _ _ _ _ ⟨ob, td, ts, rs2, sh, (sTV (tkT (exT T n ha 10 0) ha n) n (tV (tkT (exT T n ha 10 0) ha n) n + nI nn)), (n + 1), ha, (ch + nn), hp, C, (tlT (adT M 10 0) te9 (ttN M) nn), o9, ⟨⟨((hI2.oth (Or.inr (by omega)) _).frM hf9), ((hN2.oth (by omega) _).frM hf9), (hD2o.frM hf9)⟩, (sTV_ok hti.1 (tk_U hU hha _ _) hti.2), ⟨by omega, hts, Z4_of hz4 ho2, by rw [hs2]; omega, hc4⟩, ⟨hM9, hO9, (tlT_ok had te9 (by omega) (by omega)), hadX⟩, ⟨((hdm 76).mpr (Or.inr g76)), ((k76.1.trans l76).trans (hobk 76 (by omega)).symm), _, ((hf9 76 (by omega)).trans kup_self)⟩, (rel_tl hra te9 _ _ _ _)⟩, ⟨hobk 0 (by omega), hobk 48 (by omega), hobk 76 (by omega)⟩, rfl⟩ ⟨by omega, by omega⟩
    · cases hrv
      have hx2 : Phi rs2 ≤ 2663816 := hI2.1.phi
      have k76 := hf2 76 (by omega) (by omega) (by omega)
      have hD2o := hD2.oth (k := 76) (by omega) (.inl (cJ, 1, .inr (.inl f9)))
      have hM2 := (hM.frC (ob2 := ob) (dom2 := dom) hf2 (fun _ _ => rfl) (fun _ h => h)).o76 (.inl (cJ, 1, .inr (.inl f9)))
      have hnan : ¬ anM M := fun q => by have q2 := (rel_an hR hTM).mpr q; rcases q2 with q2 | ⟨j9, q3, q4⟩; (rw [hlj] at q2; cases q2); (rw [hlj] at q3; cases q3; exact q4 hkj)
      have hjn := (hF ha j hha hlj).2.1
      have hje : ttLa M (ttHa M) = nI j := by rw [r2]; rcases (r7 ha hha).2 with ⟨q1, -⟩ | ⟨j9, -, q2, q3⟩; (rw [hlj] at q1; cases q1); (rw [hlj] at q2; cases q2; exact q3)
      refine v_istore (lv' := [some (.ref b), some (.ref (ob 0)), some (.ref (ob 48)), some (.ref (ob 76)), some (.int (nI i)), some (.int 0), o6]) hX d_L_law_188 (Nat.le_of_ble_eq_true rfl) rfl ?_
      refine v_aload_n hX d_L_law_190 rfl rfl ?_
      refine v_aload_n hX d_L_law_191 rfl rfl ?_
      refine v_iload hX d_L_law_192 rfl ?_
      refine v_iconst (v := 1) hX d_L_law_194 (by decide) ?_
      refine v_iaddE (v := nI (i + 1)) hX d_L_law_195 (nI_add i 1) ?_
      refine v_snI hX hs (i := (i + 1)) (by omega) hL d_L_law_196 ?_
      refine v_aload_n hX d_L_law_197 rfl rfl ?_
      refine v_iload hX d_L_law_198 rfl ?_
      refine v_iconst (v := 2) hX d_L_law_200 (by decide) ?_
      refine v_iaddE (v := nI (i + 2)) hX d_L_law_201 (nI_add i 2) ?_
      refine v_snI hX hs (i := (i + 2)) (by omega) hL d_L_law_202 ?_
      refine v_aload_n hX d_L_law_203 rfl rfl ?_
      refine v_iload hX d_L_law_204 rfl ?_
      refine v_iconst (v := 3) hX d_L_law_206 (by decide) ?_
      refine v_iaddE (v := nI (i + 3)) hX d_L_law_207 (nI_add i 3) ?_
      refine v_snI hX hs (i := (i + 3)) (by omega) hL d_L_law_208 ?_
      refine v_aload_n hX d_L_law_209 rfl rfl ?_
      refine v_iload hX d_L_law_210 rfl ?_
      refine v_iconst (v := 4) hX d_L_law_212 (by decide) ?_
      refine v_iaddE (v := nI (i + 4)) hX d_L_law_213 (nI_add i 4) ?_
      refine v_snI hX hs (i := (i + 4)) (by omega) hL d_L_law_214 ?_
      refine v_aload_n hX d_L_law_215 rfl rfl ?_
      refine v_iload hX d_L_law_216 rfl ?_
      refine v_iconst (v := 5) hX d_L_law_218 (by decide) ?_
      refine v_iaddE (v := nI (i + 5)) hX d_L_law_219 (nI_add i 5) ?_
      refine v_snI hX hs (i := (i + 5)) (by omega) hL d_L_law_220 ?_
      have hms := m_say_la2 (l := l) (D := D) (A := A) (cJ := cJ) (cN := cN) hM2 hO (sc ((i + 1))) (sc ((i + 2))) (sc ((i + 3))) (sc ((i + 4))) (nn := nn) hn2 hTM hTX hsy hnan (by omega) hje
      rw [← hy] at hms
      refine c_V hX 48 (rest := []) hl (hms) ml_L_42 im_M_say se_M_say in_M cd_M_say rfl q_M_say ⟨(Nat.le_of_ble_eq_true rfl), (Nat.le_of_ble_eq_true rfl)⟩ hM2.1.1 hM2.1.2.1 hM2.1.2.2 rfl rfl rfl rfl (Nat.le_of_ble_eq_true rfl) d_L_law_221 ⟨by show _ + 0 ≤ 601024; omega, by show _ + 0 ≤ 7293034; omega⟩ (fun rv d3 lo3 va9 kc ns hp => ?_)
      obtain ⟨rfl, rfl, rfl, rfl, rfl, te9, o9, hth, hM9, hO9, hf9⟩ := hp
      show V X D CL A _ _ _ _ _ _ _ (.int (nI j) :: [])
      refine v_istore (lv' := [some (.ref b), some (.ref (ob 0)), some (.ref (ob 48)), some (.ref (ob 76)), some (.int (nI i)), some (.int 0), some (.int (nI j))]) hX d_L_law_224 (Nat.le_of_ble_eq_true rfl) rfl ?_
      refine v_aload_n hX d_L_law_226 rfl rfl ?_
      refine c_V hX 48 (rest := []) hl (c_M_thrown hM9) ml_L_43 im_M_thrown se_M_thrown in_M cd_M_thrown rfl q_M_thrown ⟨(Nat.le_of_ble_eq_true rfl), (Nat.le_of_ble_eq_true rfl)⟩ hM9.1.1 hM9.1.2.1 hM9.1.2.2 rfl rfl rfl rfl (Nat.le_of_ble_eq_true rfl) d_L_law_227 ⟨by show _ + 0 ≤ 601024; omega, by show _ + 0 ≤ 7293034; omega⟩ (fun rv d2 lo2 va2 kc ns hp => ?_)
      obtain ⟨rfl, rfl, rfl, rfl, rfl, rfl⟩ := hp
      show V X D CL A _ _ _ _ _ _ _ (.int (ooTh o9) :: [])
      refine v_iload hX d_L_law_230 rfl ?_
      refine v_icmp_eq hX d_L_law_232 (tgt := 237) (by decide) (fun _ => ?_) (fun c => absurd (hth) c)
      refine v_iload hX d_L_law_237 rfl ?_
      refine v_if_ne hX d_L_law_239 (tgt := 254) (by decide) (fun c => absurd (by decide) c) (fun _ => ?_)
      refine v_aload_n hX d_L_law_242 rfl rfl ?_
      refine v_iconst (v := 0) hX d_L_law_243 (by decide) ?_
      refine v_lald hX 76 3 (v := (nI j).toInt64) g76 (k76.1.trans l76) ((hf9 76 (by omega)).trans kup_self) rfl (vpb (by decide)) hq9 d_L_law_244 ?_
      refine v_iload hX d_L_law_245 rfl ?_
      refine v_i2l (v := ((nI j)).toInt64) hX d_L_law_247 rfl ?_
      refine v_lcmp hX d_L_law_248 ?_
      refine v_if_eq hX d_L_law_249 (tgt := 254) (by decide) (fun _ => ?_) (fun c => absurd (by first | exact lg_self _ | (rw [hR.1.1]; exact lg_self _)) c)
      refine v_goto hX d_L_law_254 (tgt := 518) (by decide) ?_
      exact kk _ _ _ _ _ _ _ _ ⟨ob, td, ts, rs2, sh, (sTV T j (tV T j + nI nn)), n, ha, (ch + nn), hp, C, (tlT M te9 j nn), o9, ⟨⟨((hI2.oth (Or.inr (by omega)) _).frM hf9), ((hN2.oth (by omega) _).frM hf9), (hD2o.frM hf9)⟩, (sTV_ok hT hU hF), ⟨hha, hts, Z4_of hz4 ho2, by rw [hs2]; omega, hc4⟩, ⟨hM9, hO9, (tlT_ok hTM te9 (by omega) (by omega)), hTX⟩, ⟨g76, (k76.1.trans l76), _, ((hf9 76 (by omega)).trans kup_self)⟩, (rel_tl hR te9 _ _ _ _)⟩, ⟨rfl, rfl, rfl⟩, rfl⟩ ⟨by omega, by omega⟩
  · show V X D CL A _ _ _ _ _ _ _ [.int (if E = "java/lang/IllegalArgumentException" then 1 else 2)]
    obtain ⟨v9, hv9⟩ : ∃ z : Int32, z = (if E = "java/lang/IllegalArgumentException" then 1 else 2) := ⟨_, rfl⟩
    rw [← hv9]
    have hnz : ¬ v9 = 0 := by rw [hv9]; split <;> decide
    obtain ⟨hE9, hno, rfl, rfl, rfl, rfl, rfl⟩ := hpt
    have hng := fun q => hno ((rel_sy hR hTM (sc (i + 5))).mpr q)
    refine v_istore (lv' := [some (.ref b), some (.ref (ob 0)), some (.ref (ob 48)), some (.ref (ob 76)), some (.int (nI i)), some (.int v9), o6]) hX d_L_law_188 (Nat.le_of_ble_eq_true rfl) rfl ?_
    refine v_aload_n hX d_L_law_190 rfl rfl ?_
    refine v_aload_n hX d_L_law_191 rfl rfl ?_
    refine v_iload hX d_L_law_192 rfl ?_
    refine v_iconst (v := 1) hX d_L_law_194 (by decide) ?_
    refine v_iaddE (v := nI (i + 1)) hX d_L_law_195 (nI_add i 1) ?_
    refine v_snI hX hs (i := (i + 1)) (by omega) hL d_L_law_196 ?_
    refine v_aload_n hX d_L_law_197 rfl rfl ?_
    refine v_iload hX d_L_law_198 rfl ?_
    refine v_iconst (v := 2) hX d_L_law_200 (by decide) ?_
    refine v_iaddE (v := nI (i + 2)) hX d_L_law_201 (nI_add i 2) ?_
    refine v_snI hX hs (i := (i + 2)) (by omega) hL d_L_law_202 ?_
    refine v_aload_n hX d_L_law_203 rfl rfl ?_
    refine v_iload hX d_L_law_204 rfl ?_
    refine v_iconst (v := 3) hX d_L_law_206 (by decide) ?_
    refine v_iaddE (v := nI (i + 3)) hX d_L_law_207 (nI_add i 3) ?_
    refine v_snI hX hs (i := (i + 3)) (by omega) hL d_L_law_208 ?_
    refine v_aload_n hX d_L_law_209 rfl rfl ?_
    refine v_iload hX d_L_law_210 rfl ?_
    refine v_iconst (v := 4) hX d_L_law_212 (by decide) ?_
    refine v_iaddE (v := nI (i + 4)) hX d_L_law_213 (nI_add i 4) ?_
    refine v_snI hX hs (i := (i + 4)) (by omega) hL d_L_law_214 ?_
    refine v_aload_n hX d_L_law_215 rfl rfl ?_
    refine v_iload hX d_L_law_216 rfl ?_
    refine v_iconst (v := 5) hX d_L_law_218 (by decide) ?_
    refine v_iaddE (v := nI (i + 5)) hX d_L_law_219 (nI_add i 5) ?_
    refine v_snI hX hs (i := (i + 5)) (by omega) hL d_L_law_220 ?_
    refine c_V hX 48 (rest := []) hl (m_say_no2 hM hO (sc ((i + 1))) (sc ((i + 2))) (sc ((i + 3))) (sc ((i + 4))) (sc ((i + 5))) hTM hTX hng) ml_L_42 im_M_say se_M_say in_M cd_M_say rfl q_M_say ⟨(Nat.le_of_ble_eq_true rfl), (Nat.le_of_ble_eq_true rfl)⟩ hM.1.1 hM.1.2.1 hM.1.2.2 rfl rfl rfl rfl (Nat.le_of_ble_eq_true rfl) d_L_law_221 ⟨by show _ + 0 ≤ 601024; omega, by show _ + 0 ≤ 7293034; omega⟩ (fun rv d3 lo3 va9 kc ns hp => ?_)
    obtain ⟨rfl, rfl, rfl, rfl, rfl, o9, hth, hM9, hO9, hf9⟩ := hp
    show V X D CL A _ _ _ _ _ _ _ (.int 0 :: [])
    have hcd : ooTh o9 = v9 := by
      rw [hth, hv9]
      rcases hE9 with ⟨rfl, q⟩ | ⟨rfl, q⟩
      · rw [if_neg (fun z => q ((rel_sg hR hTM _).mpr z)), if_pos rfl]
      · rw [if_pos ((rel_sg hR hTM _).mp q), if_neg (by decide)]
    refine v_istore (lv' := [some (.ref b), some (.ref (ob 0)), some (.ref (ob 48)), some (.ref (ob 76)), some (.int (nI i)), some (.int v9), some (.int 0)]) hX d_L_law_224 (Nat.le_of_ble_eq_true rfl) rfl ?_
    refine v_aload_n hX d_L_law_226 rfl rfl ?_
    refine c_V hX 48 (rest := []) hl (c_M_thrown hM9) ml_L_43 im_M_thrown se_M_thrown in_M cd_M_thrown rfl q_M_thrown ⟨(Nat.le_of_ble_eq_true rfl), (Nat.le_of_ble_eq_true rfl)⟩ hM9.1.1 hM9.1.2.1 hM9.1.2.2 rfl rfl rfl rfl (Nat.le_of_ble_eq_true rfl) d_L_law_227 ⟨by show _ + 0 ≤ 601024; omega, by show _ + 0 ≤ 7293034; omega⟩ (fun rv d2 lo2 va2 kc ns hp => ?_)
    obtain ⟨rfl, rfl, rfl, rfl, rfl, rfl⟩ := hp
    show V X D CL A _ _ _ _ _ _ _ (.int (ooTh o9) :: [])
    refine v_iload hX d_L_law_230 rfl ?_
    refine v_icmp_eq hX d_L_law_232 (tgt := 237) (by decide) (fun _ => ?_) (fun c => absurd (hcd) c)
    refine v_iload hX d_L_law_237 rfl ?_
    refine v_if_ne hX d_L_law_239 (tgt := 254) (by decide) (fun _ => ?_) (fun c => absurd c (hnz))
    refine v_goto hX d_L_law_254 (tgt := 518) (by decide) ?_
    exact kk _ _ _ _ _ _ _ _ ⟨ob, td, ts, rs, sh, T, n, ha, ch, hp, C, M, o9, ⟨⟨(hI.frM hf9), (hN.frM hf9), (hD.frM hf9)⟩, ⟨hT, hU, hF⟩, ⟨hha, hts, hz4, htl, hch⟩, ⟨hM9, hO9, hTM, hTX⟩, ⟨g76, l76, _, ((hf9 76 (by omega)).trans v76)⟩, hR⟩, ⟨rfl, rfl, rfl⟩, rfl⟩ ⟨by omega, by omega⟩
set_option maxHeartbeats 4000000 in
set_option maxRecDepth 100000 in
theorem law_pages {l : Launch} {X : KX} {D : va_G} {A : Nat → Prop} {cI cB cZ cJ cN : ClassId} {b L : Nat} {sc : Nat → Int32} {i cells slots a0 a48 a76 ph : Nat} {dom : Nat → Prop} {loc : Nat → Nat} {val : Nat → va_E} {o5 o6 : Option Value} (hX : OX X b_L_law 7 "ProsePagesLaw" TT D CL (TY cI cB cZ cJ cN) A room_1) (hl : X.2.1 = l) (htr : l.stackTraces = false) (hs : va_X b L sc (xs X) (xs X).heap ∧ b < (xs X).heap.size ∧ ¬ A b) (hL : L ≤ 3072) (hi : i + 6 ≤ L) (hW : LW9 cI cB cZ cJ cN a0 a48 a76 ph dom loc val) (hc : cells + 200 + (2663816 - ph) / 16 ≤ 601024) (hsl : slots + 700200 + (2663816 - ph) ≤ 7293034) (kk : KL9 X D A cI cB cZ cJ cN b a0 a48 a76 ph i cells slots) : V X D CL A dom loc val cells slots 268 [some (.ref b), some (.ref a0), some (.ref a48), some (.ref a76), some (.int (nI i)), o5, o6] [] := by
  obtain ⟨ob, td, ts, rs, sh, T, n, ha, ch, hp, C, M, O, ⟨⟨hI, hN, hD⟩, ⟨hT, hU, hF⟩, ⟨hha, hts, hz4, htl, hch⟩, ⟨hM, hO, hTM, hTX⟩, ⟨g76, l76, f76, v76⟩, hR⟩, ⟨rfl, rfl, rfl⟩, rfl⟩ := hW
  have hx : Phi rs ≤ 2663816 := hI.1.phi
  have hn3 := hN.1
  have htl3 : (rs 3).1 ≤ 4300 := by omega
  refine v_aload_n hX d_L_law_268 rfl rfl ?_
  refine v_aload_n hX d_L_law_269 rfl rfl ?_
  refine v_iload hX d_L_law_270 rfl ?_
  refine v_iconst (v := 1) hX d_L_law_272 (by decide) ?_
  refine v_iaddE (v := nI (i + 1)) hX d_L_law_273 (nI_add i 1) ?_
  refine v_snI hX hs (i := (i + 1)) (by omega) hL d_L_law_274 ?_
  refine v_aload_n hX d_L_law_275 rfl rfl ?_
  refine v_iload hX d_L_law_276 rfl ?_
  refine v_iconst (v := 2) hX d_L_law_278 (by decide) ?_
  refine v_iaddE (v := nI (i + 2)) hX d_L_law_279 (nI_add i 2) ?_
  refine v_snI hX hs (i := (i + 2)) (by omega) hL d_L_law_280 ?_
  refine v_aload_n hX d_L_law_281 rfl rfl ?_
  have h0 : dom 0 ∧ loc 0 = ob 0 ∧ val 0 = .inr (4, [.ref (ob 1), .ref (ob 2), .ref (ob (1000 + 0)), .ref (ob (1000 + ha)), .int (nI n), .int (nI ch), .ref (ob ts), .int hp]) := hD.1
  have hK9 := c_L_pages (l := l) (D := D) (A := A) (cI := cI) (cB := cB) (cZ := cZ) (cJ := cJ) (cN := cN) (a76 := ob 76) (ph := Phi rs) (sc ((i + 1))) (sc ((i + 2))) (c_P_pages hI hN hD hU hha hts hT htl3 htr (sc ((i + 1))) (sc ((i + 2))) hz4) h0 ?hK ?hKT
  case hK =>
    intro rv d lo va k9 n9 h
    obtain ⟨⟨v, rfl⟩, rfl, rs2, sh2, hI2, -, -, -, -, ⟨ha1, ha2⟩, hf2⟩ := h
    have k76 := hf2 76 (by omega) (by omega) (by omega)
    have hx2 : Phi rs2 ≤ 2663816 := hI2.1.phi
    exact ⟨⟨_, rfl⟩, ⟨g76, k76.1.trans l76, f76, k76.2.trans v76⟩, by omega, by omega⟩
  case hKT =>
    intro E d lo va k9 n9 h
    rcases h with ⟨rfl, rfl, rfl, rfl, rfl, rfl⟩ | ⟨rfl, rfl, rs2, sh2, hI2, -, -, -, -, ⟨ha1, ha2⟩, hf2⟩
    · exact ⟨Or.inl rfl, by omega, by omega⟩
    · have hx2 : Phi rs2 ≤ 2663816 := hI2.1.phi
      exact ⟨Or.inr rfl, by omega, by omega⟩
  refine c_SW hX (rest := []) hl hK9 ml_L_50 sm_L_pages in_L cd_L_pages q_L_pages ⟨(Nat.le_of_ble_eq_true rfl), (Nat.le_of_ble_eq_true rfl)⟩ rfl rfl rfl (Nat.le_of_ble_eq_true rfl) d_L_law_282 ⟨by show _ + (140 + (2663816 - Phi rs) / 16) ≤ 601024; omega, by show _ + (700100 + (2663816 - Phi rs)) ≤ 7293034; omega⟩ (fun rv d2 lo2 va2 kc2 ns2 hp9 => ?_)
  rcases hp9 with ⟨v0, va0, f9, hpost, rfl, rfl, hq9⟩ | ⟨E, hpt, rfl⟩
  · show V X D CL A _ _ _ _ _ _ _ [.int 0]
    obtain ⟨-, rfl, rs2, sh2, hI2, hz2, hs2, hN2, hD2, ⟨ha1, ha2⟩, hf2⟩ := hpost
    have hx2 : Phi rs2 ≤ 2663816 := hI2.1.phi
    have k76 := hf2 76 (by omega) (by omega) (by omega)
    have hM2 := (hM.frC (ob2 := ob) (dom2 := dom) hf2 (fun _ _ => rfl) (fun _ h => h)).o76 (.inl (cJ, 1, .inr (.inl f9)))
    have hD2o := hD2.oth (k := 76) (by omega) (.inl (cJ, 1, .inr (.inl f9)))
    refine v_istore (lv' := [some (.ref b), some (.ref (ob 0)), some (.ref (ob 48)), some (.ref (ob 76)), some (.int (nI i)), some (.int 0), o6]) hX d_L_law_285 (Nat.le_of_ble_eq_true rfl) rfl ?_
    refine v_aload_n hX d_L_law_287 rfl rfl ?_
    refine v_aload_n hX d_L_law_288 rfl rfl ?_
    refine v_iload hX d_L_law_289 rfl ?_
    refine v_iconst (v := 1) hX d_L_law_291 (by decide) ?_
    refine v_iaddE (v := nI (i + 1)) hX d_L_law_292 (nI_add i 1) ?_
    refine v_snI hX hs (i := (i + 1)) (by omega) hL d_L_law_293 ?_
    refine v_aload_n hX d_L_law_294 rfl rfl ?_
    refine v_iload hX d_L_law_295 rfl ?_
    refine v_iconst (v := 2) hX d_L_law_297 (by decide) ?_
    refine v_iaddE (v := nI (i + 2)) hX d_L_law_298 (nI_add i 2) ?_
    refine v_snI hX hs (i := (i + 2)) (by omega) hL d_L_law_299 ?_
    refine c_V hX 48 (rest := []) hl (c_M_pages hM2 hO (sc ((i + 1))) (sc ((i + 2))) hTM hTX.2.1) ml_L_52 im_M_pages se_M_pages in_M cd_M_pages rfl q_M_pages ⟨(Nat.le_of_ble_eq_true rfl), (Nat.le_of_ble_eq_true rfl)⟩ hM2.1.1 hM2.1.2.1 hM2.1.2.2 rfl rfl rfl rfl (Nat.le_of_ble_eq_true rfl) d_L_law_300 ⟨by show _ + 0 ≤ 601024; omega, by show _ + 0 ≤ 7293034; omega⟩ (fun rv d3 lo3 va9 kc ns hp => ?_)
    obtain ⟨rfl, rfl, rfl, rfl, C, o9, c9, ⟨⟨v8, rfl⟩, hc9⟩, hM9, hO9, hf9⟩ := hp
    show V X D CL A _ _ _ _ _ _ _ (.int v8 :: [])
    refine v_istore (lv' := [some (.ref b), some (.ref (ob 0)), some (.ref (ob 48)), some (.ref (ob 76)), some (.int (nI i)), some (.int 0), some (.int v8)]) hX d_L_law_303 (Nat.le_of_ble_eq_true rfl) rfl ?_
    refine v_goto hX d_L_law_305 (tgt := 518) (by decide) ?_
    exact kk _ _ _ _ _ _ _ _ ⟨ob, ts, td, rs2, sh2, T, n, ha, ch, 1, C, (sxCo M c9), o9, ⟨⟨((hI2.oth (Or.inr (by omega)) _).frM hf9), ((hN2.oth (by omega) _).frM hf9), (hD2o.frM hf9)⟩, ⟨hT, hU, hF⟩, ⟨hha, hI.2.2.2.2, hz2, by rw [hs2]; exact htl, hch⟩, ⟨hM9, hO9, (coT_ok hTM c9), ⟨hTX.1, hc9, hTX.2.2⟩⟩, ⟨g76, (k76.1.trans l76), _, ((hf9 76 (by omega)).trans kup_self)⟩, (rel_co hR c9)⟩, ⟨rfl, rfl, rfl⟩, rfl⟩ ⟨by omega, by omega⟩
  · show V X D CL A _ _ _ _ _ _ _ [.int (if E = "java/lang/IllegalArgumentException" then 1 else 2)]
    obtain ⟨v9, hv9⟩ : ∃ z : Int32, z = (if E = "java/lang/IllegalArgumentException" then 1 else 2) := ⟨_, rfl⟩
    rw [← hv9]
    have hnz : ¬ v9 = 0 := by rw [hv9]; split <;> decide
    rcases hpt with ⟨-, rfl, rfl, rfl, rfl, rfl⟩ | ⟨-, rfl, rs2, sh2, hI2, hz2, hs2, hN2, hD2, ⟨ha1, ha2⟩, hf2⟩
    · have hbr := 0
      refine v_istore (lv' := [some (.ref b), some (.ref (ob 0)), some (.ref (ob 48)), some (.ref (ob 76)), some (.int (nI i)), some (.int v9), o6]) hX d_L_law_285 (Nat.le_of_ble_eq_true rfl) rfl ?_
      refine v_aload_n hX d_L_law_287 rfl rfl ?_
      refine v_aload_n hX d_L_law_288 rfl rfl ?_
      refine v_iload hX d_L_law_289 rfl ?_
      refine v_iconst (v := 1) hX d_L_law_291 (by decide) ?_
      refine v_iaddE (v := nI (i + 1)) hX d_L_law_292 (nI_add i 1) ?_
      refine v_snI hX hs (i := (i + 1)) (by omega) hL d_L_law_293 ?_
      refine v_aload_n hX d_L_law_294 rfl rfl ?_
      refine v_iload hX d_L_law_295 rfl ?_
      refine v_iconst (v := 2) hX d_L_law_297 (by decide) ?_
      refine v_iaddE (v := nI (i + 2)) hX d_L_law_298 (nI_add i 2) ?_
      refine v_snI hX hs (i := (i + 2)) (by omega) hL d_L_law_299 ?_
      refine c_V hX 48 (rest := []) hl (c_M_pages hM hO (sc ((i + 1))) (sc ((i + 2))) hTM hTX.2.1) ml_L_52 im_M_pages se_M_pages in_M cd_M_pages rfl q_M_pages ⟨(Nat.le_of_ble_eq_true rfl), (Nat.le_of_ble_eq_true rfl)⟩ hM.1.1 hM.1.2.1 hM.1.2.2 rfl rfl rfl rfl (Nat.le_of_ble_eq_true rfl) d_L_law_300 ⟨by show _ + 0 ≤ 601024; omega, by show _ + 0 ≤ 7293034; omega⟩ (fun rv d3 lo3 va9 kc ns hp => ?_)
      obtain ⟨rfl, rfl, rfl, rfl, C, o9, c9, ⟨⟨v8, rfl⟩, hc9⟩, hM9, hO9, hf9⟩ := hp
      show V X D CL A _ _ _ _ _ _ _ (.int v8 :: [])
      refine v_istore (lv' := [some (.ref b), some (.ref (ob 0)), some (.ref (ob 48)), some (.ref (ob 76)), some (.int (nI i)), some (.int v9), some (.int v8)]) hX d_L_law_303 (Nat.le_of_ble_eq_true rfl) rfl ?_
      refine v_goto hX d_L_law_305 (tgt := 518) (by decide) ?_
      exact kk _ _ _ _ _ _ _ _ ⟨ob, td, ts, rs, sh, T, n, ha, ch, hp, C, (sxCo M c9), o9, ⟨⟨(hI.frM hf9), (hN.frM hf9), (hD.frM hf9)⟩, ⟨hT, hU, hF⟩, ⟨hha, hts, hz4, htl, hch⟩, ⟨hM9, hO9, (coT_ok hTM c9), ⟨hTX.1, hc9, hTX.2.2⟩⟩, ⟨g76, l76, _, ((hf9 76 (by omega)).trans v76)⟩, (rel_co hR c9)⟩, ⟨rfl, rfl, rfl⟩, rfl⟩ ⟨by omega, by omega⟩
    · have hbr := 1
      have hx2 : Phi rs2 ≤ 2663816 := hI2.1.phi
      have k76 := hf2 76 (by omega) (by omega) (by omega)
      have hM2 := hM.frC (ob2 := ob) (dom2 := dom) hf2 (fun _ _ => rfl) (fun _ h => h)
      refine v_istore (lv' := [some (.ref b), some (.ref (ob 0)), some (.ref (ob 48)), some (.ref (ob 76)), some (.int (nI i)), some (.int v9), o6]) hX d_L_law_285 (Nat.le_of_ble_eq_true rfl) rfl ?_
      refine v_aload_n hX d_L_law_287 rfl rfl ?_
      refine v_aload_n hX d_L_law_288 rfl rfl ?_
      refine v_iload hX d_L_law_289 rfl ?_
      refine v_iconst (v := 1) hX d_L_law_291 (by decide) ?_
      refine v_iaddE (v := nI (i + 1)) hX d_L_law_292 (nI_add i 1) ?_
      refine v_snI hX hs (i := (i + 1)) (by omega) hL d_L_law_293 ?_
      refine v_aload_n hX d_L_law_294 rfl rfl ?_
      refine v_iload hX d_L_law_295 rfl ?_
      refine v_iconst (v := 2) hX d_L_law_297 (by decide) ?_
      refine v_iaddE (v := nI (i + 2)) hX d_L_law_298 (nI_add i 2) ?_
      refine v_snI hX hs (i := (i + 2)) (by omega) hL d_L_law_299 ?_
      refine c_V hX 48 (rest := []) hl (c_M_pages hM2 hO (sc ((i + 1))) (sc ((i + 2))) hTM hTX.2.1) ml_L_52 im_M_pages se_M_pages in_M cd_M_pages rfl q_M_pages ⟨(Nat.le_of_ble_eq_true rfl), (Nat.le_of_ble_eq_true rfl)⟩ hM2.1.1 hM2.1.2.1 hM2.1.2.2 rfl rfl rfl rfl (Nat.le_of_ble_eq_true rfl) d_L_law_300 ⟨by show _ + 0 ≤ 601024; omega, by show _ + 0 ≤ 7293034; omega⟩ (fun rv d3 lo3 va9 kc ns hp => ?_)
      obtain ⟨rfl, rfl, rfl, rfl, C, o9, c9, ⟨⟨v8, rfl⟩, hc9⟩, hM9, hO9, hf9⟩ := hp
      show V X D CL A _ _ _ _ _ _ _ (.int v8 :: [])
      refine v_istore (lv' := [some (.ref b), some (.ref (ob 0)), some (.ref (ob 48)), some (.ref (ob 76)), some (.int (nI i)), some (.int v9), some (.int v8)]) hX d_L_law_303 (Nat.le_of_ble_eq_true rfl) rfl ?_
      refine v_goto hX d_L_law_305 (tgt := 518) (by decide) ?_
      exact kk _ _ _ _ _ _ _ _ ⟨ob, td, ts, rs2, sh2, T, n, ha, ch, hp, C, (sxCo M c9), o9, ⟨⟨(hI2.frM hf9), (hN2.frM hf9), (hD2.frM hf9)⟩, ⟨hT, hU, hF⟩, ⟨hha, hts, hz2, by rw [hs2]; exact htl, hch⟩, ⟨hM9, hO9, (coT_ok hTM c9), ⟨hTX.1, hc9, hTX.2.2⟩⟩, ⟨g76, (k76.1.trans l76), _, ((hf9 76 (by omega)).trans (k76.2.trans v76))⟩, (rel_co hR c9)⟩, ⟨rfl, rfl, rfl⟩, rfl⟩ ⟨by omega, by omega⟩
