section KLp
theorem len6 {L : Nat} (h : L ≤ 3072) : (Int32.ofNat L - 6).toInt = (L : Int) - 6 := by
  show (nI L - 6).toInt = _
  rw [Int32.toInt_sub, nI_toInt (by omega), show (6 : Int32).toInt = 6 by decide]
  exact Int.bmod_eq_of_le (by omega) (by omega)
set_option maxHeartbeats 4000000 in
set_option maxRecDepth 100000 in
theorem law_out {p : Program} {l : Launch} {e : Env} {s : State} {m : MethodId} {below : List Frame} {meth : Method} {c : Code} {b : Nat} {sc : Nat → Int32} {D : va_G} {A : Nat → Prop} {cI cB cZ cJ cN : ClassId} {X : KX} (hXe : X = (p, l, e, room_1, s, m, #[Value.ref b], below, meth, c, lw_Z below #[Value.ref b] s)) (hX : OX X b_L_law 7 "ProsePagesLaw" TT D CL (TY cI cB cZ cJ cN) A room_1) (hA : ∀ q, A q → s.heap.size ≤ q) (hr : meth.sig.returnType = ret) {dom : Nat → Prop} {loc : Nat → Nat} {val : Nat → va_E} {cells slots : Nat} (hc : cells ≤ 601024) (hsl : slots ≤ 7293034) {lv : List (Option Value)} : V X D CL A dom loc val cells slots 524 lv [] := by
  refine v_iconst (v := 1) hX d_L_law_524 (by decide) ?_
  subst hXe
  obtain ⟨hx, hb, hml, ho, hts, hK, hA9, hlocks, hR2, hN⟩ := hX
  exact fun H locs ls hW hS hl => va_forget (fun q hq => hA _ (hS.2.2 q hq)) (W.widen hc hsl (lw_ret hx hb hr hlocks d_L_law_525))
set_option maxHeartbeats 4000000 in
set_option maxRecDepth 100000 in
theorem law_loop {p : Program} {l : Launch} {e : Env} {s : State} {m : MethodId} {below : List Frame} {meth : Method} {c : Code} {b : Nat} {sc : Nat → Int32} {D : va_G} {A : Nat → Prop} {cI cB cZ cJ cN : ClassId} {X : KX} (hXe : X = (p, l, e, room_1, s, m, #[Value.ref b], below, meth, c, lw_Z below #[Value.ref b] s)) (hX : OX X b_L_law 7 "ProsePagesLaw" TT D CL (TY cI cB cZ cJ cN) A room_1) (hA : ∀ q, A q → s.heap.size ≤ q) (hr : meth.sig.returnType = ret) (hl : X.2.1 = l) (htr : l.stackTraces = false) {L : Nat} (hL : L ≤ 3072) (hs : va_X b L sc (xs X) (xs X).heap ∧ b < (xs X).heap.size ∧ ¬ A b) {a0 a48 a76 : Nat} {c0 s0 p0 : Nat} (hc0 : c0 ≤ 1000) (hs0 : s0 ≤ 200000) : ∀ (m9 j : Nat) (dom : Nat → Prop) (loc : Nat → Nat) (val : Nat → va_E) (ph cells slots : Nat) (o5 o6 : Option Value), 513 - j < m9 → j ≤ 512 → LW9 cI cB cZ cJ cN a0 a48 a76 ph dom loc val → (slots + p0 ≤ s0 + ph + 40 * j ∧ 16 * cells + p0 ≤ 16 * c0 + ph + 80 * j) → V X D CL A dom loc val cells slots 23 [some (.ref b), some (.ref a0), some (.ref a48), some (.ref a76), some (.int (nI (6 * j))), o5, o6] [] := by
  intro m9
  induction m9 with
  | zero => intro j dom loc val ph cells slots o5 o6 hk; exact absurd hk (Nat.not_lt_zero _)
  | succ m9 ih =>
    intro j dom loc val ph cells slots o5 o6 hk hj hW hacc
    have hph := hW.phi
    obtain ⟨ha1, ha2⟩ := hacc
    refine v_iload hX d_L_law_23 rfl ?_
    refine v_aload_n hX d_L_law_25 rfl rfl ?_
    refine v_slen hX hs d_L_law_26 ?_
    refine v_bipush (v := 6) hX d_L_law_27 (by decide) ?_
    refine v_isub hX d_L_law_29 ?_
    refine v_icmp_gt hX d_L_law_30 (tgt := 524) (by decide) (fun _ => ?_) (fun c30 => ?_)
    · exact law_out (sc := sc) hXe hX hA hr (by omega) (by omega)
    · have hi : 6 * j + 6 ≤ L := by
        have q : ¬ (Int32.ofNat L - 6).toInt < (nI (6 * j)).toInt := fun z => c30 (Int32.lt_iff_toInt_lt.mpr z)
        rw [len6 hL, nI_toInt (by omega)] at q
        omega
      have hc9 : cells + 200 + (2663816 - ph) / 16 ≤ 601024 := by omega
      have hsl9 : slots + 700200 + (2663816 - ph) ≤ 7293034 := by omega
      have kk : KL9 X D A cI cB cZ cJ cN b a0 a48 a76 ph (6 * j) cells slots := by
        intro dom2 loc2 val2 ph2 k2 s2 o7 o8 hW2 hac
        obtain ⟨hb1, hb2⟩ := hac
        refine v_iinc (y := nI (6 * (j + 1))) (lv' := [some (.ref b), some (.ref a0), some (.ref a48), some (.ref a76), some (.int (nI (6 * (j + 1)))), o7, o8]) hX d_L_law_518 rfl (nI_add (6 * j) 6) rfl ?_
        refine v_goto hX d_L_law_521 (tgt := 23) (by decide) ?_
        exact ih (j + 1) dom2 loc2 val2 ph2 k2 s2 o7 o8 (by omega) (by omega) hW2 ⟨by omega, by omega⟩
      have same : KL9 X D A cI cB cZ cJ cN b a0 a48 a76 ph (6 * j) cells slots := kk
      refine v_aload_n hX d_L_law_33 rfl rfl ?_
      refine v_iload hX d_L_law_34 rfl ?_
      refine v_snI hX hs (i := 6 * j) (by omega) hL d_L_law_36 ?_
      refine v_bipush (v := 15) hX d_L_law_37 (by decide) ?_
      refine v_iand hX d_L_law_39 ?_
      by_cases hw : (sc (6 * j) &&& 15).toInt < 0 ∨ 10 < (sc (6 * j) &&& 15).toInt
      · refine v_tableOut hX d_L_law_40 (tgt := 518) hw (by decide) ?_
        exact kk dom loc val ph cells slots o5 o6 hW ⟨by omega, by omega⟩
      · have hk9 : (sc (6 * j) &&& 15).toInt = 0 ∨ (sc (6 * j) &&& 15).toInt = 1 ∨ (sc (6 * j) &&& 15).toInt = 2 ∨ (sc (6 * j) &&& 15).toInt = 3 ∨ (sc (6 * j) &&& 15).toInt = 4 ∨ (sc (6 * j) &&& 15).toInt = 5 ∨ (sc (6 * j) &&& 15).toInt = 6 ∨ (sc (6 * j) &&& 15).toInt = 7 ∨ (sc (6 * j) &&& 15).toInt = 8 ∨ (sc (6 * j) &&& 15).toInt = 9 ∨ (sc (6 * j) &&& 15).toInt = 10 := by omega
        rcases hk9 with hk9 | hk9 | hk9 | hk9 | hk9 | hk9 | hk9 | hk9 | hk9 | hk9 | hk9
        · refine v_tableIn hX d_L_law_40 (tgt := 100) (by omega) (by omega) (off := 60) (by rw [hk9]; rfl) (by decide) ?_
          exact law_begin hX hl htr hs hL hi hW hc9 hsl9 kk
        · refine v_tableIn hX d_L_law_40 (tgt := 140) (by omega) (by omega) (off := 100) (by rw [hk9]; rfl) (by decide) ?_
          exact law_end hX hl htr hs hL hi hW hc9 hsl9 kk
        · refine v_tableIn hX d_L_law_40 (tgt := 153) (by omega) (by omega) (off := 113) (by rw [hk9]; rfl) (by decide) ?_
          exact law_say hX hl htr hs hL hi hW hc9 hsl9 kk
        · refine v_tableIn hX d_L_law_40 (tgt := 257) (by omega) (by omega) (off := 217) (by rw [hk9]; rfl) (by decide) ?_
          exact law_clear hX hl htr hs hL hi hW hc9 hsl9 kk
        · refine v_tableIn hX d_L_law_40 (tgt := 268) (by omega) (by omega) (off := 228) (by rw [hk9]; rfl) (by decide) ?_
          exact law_pages hX hl htr hs hL hi hW hc9 hsl9 kk
        · refine v_tableIn hX d_L_law_40 (tgt := 308) (by omega) (by omega) (off := 268) (by rw [hk9]; rfl) (by decide) ?_
          exact law_cell hX hl htr hs hL hi hW hc9 hsl9 kk
        · refine v_tableIn hX d_L_law_40 (tgt := 357) (by omega) (by omega) (off := 317) (by rw [hk9]; rfl) (by decide) ?_
          exact law_page hX hl htr hs hL hi hW hc9 hsl9 kk
        · refine v_tableIn hX d_L_law_40 (tgt := 394) (by omega) (by omega) (off := 354) (by rw [hk9]; rfl) (by decide) ?_
          exact law_line hX hl htr hs hL hi hW hc9 hsl9 kk
        · refine v_tableIn hX d_L_law_40 (tgt := 431) (by omega) (by omega) (off := 391) (by rw [hk9]; rfl) (by decide) ?_
          exact law_find hX hl htr hs hL hi hW hc9 hsl9 kk
        · refine v_tableIn hX d_L_law_40 (tgt := 456) (by omega) (by omega) (off := 416) (by rw [hk9]; rfl) (by decide) ?_
          exact law_node hX hl htr hs hL hi hW hc9 hsl9 kk
        · refine v_tableIn hX d_L_law_40 (tgt := 493) (by omega) (by omega) (off := 453) (by rw [hk9]; rfl) (by decide) ?_
          exact law_about hX hl htr hs hL hi hW hc9 hsl9 kk
end KLp
set_option maxHeartbeats 4000000 in
set_option maxRecDepth 100000 in
theorem law_go {p : Program} {l : Launch} {e : Env} {s : State} {m : MethodId} {below : List Frame} {meth : Method} {c : Code} {b : Nat} {sc : Nat → Int32} {D : va_G} {A : Nat → Prop} {cI cB cZ cJ cN : ClassId} {X : KX} (hXe : X = (p, l, e, room_1, s, m, #[Value.ref b], below, meth, c, lw_Z below #[Value.ref b] s)) (hX : OX X b_L_law 7 "ProsePagesLaw" TT D CL (TY cI cB cZ cJ cN) A room_1) (hA : ∀ q, A q → s.heap.size ≤ q) (hr : meth.sig.returnType = ret) {L : Nat} (hL : L ≤ 3072) (hs : va_X b L sc (xs X) (xs X).heap ∧ b < (xs X).heap.size ∧ ¬ A b) (hl : X.2.1 = l) (htr : l.stackTraces = false) {loc : Nat → Nat} {val : Nat → va_E} : V X D CL A (kd 0) loc val 0 0 0 [some (.ref b), none, none, none, none, none, none] [] := by
  refine v_new hX 0 (kd 1) (ci := 4) (fs := [.null, .null, .null, .null, .int 0, .int 0, .null, .int 0]) inT4 tyX4 tyX4_ok cl_L_8 ia_P in_P rfl (by decide) (Nat.le_of_ble_eq_true rfl) (Nat.le_of_ble_eq_true rfl) d_L_law_0 (kd_step 0) (kd_self 0) (fun q0 _ => ?_)
  refine v_dup hX d_L_law_3 rfl ?_
  refine c_I hX (rest := [.ref q0]) hl (c_P_init rfl) ml_L_24 im_P_init in_P cd_P_init rfl q_P_init ⟨(Nat.le_of_ble_eq_true rfl), (Nat.le_of_ble_eq_true rfl)⟩ rfl rfl rfl (Nat.le_of_ble_eq_true rfl) d_L_law_4 ⟨(Nat.le_of_ble_eq_true rfl), (Nat.le_of_ble_eq_true rfl)⟩ (fun rv d2 lo2 va2 kc ns hp => ?_)
  obtain ⟨rfl, rfl, e0, hp48, rfl, rfl⟩ := hp
  replace e0 : lo2 0 = q0 := e0
  show V X D CL A _ _ _ _ _ _ _ [.ref q0]
  refine v_astore_n (lv' := [some (.ref b), some (.ref q0), none, none, none, none, none]) hX d_L_law_7 rfl (Nat.le_of_ble_eq_true rfl) rfl ?_
  refine v_new hX 48 (kd 49) (ci := 5) (fs := [.int 0, .null, .null, .null, .null, .null, .null, .null, .null, .int 0, .int 0, .int 0, .null, .null, .null, .null, .null, .null, .int 0, .int 0, .int 0, .int 0, .int 0, .int 0, .null, .null, .null, .null, .null, .null, .null, .null, .null, .null, .int 0, .null, .null, .null, .int 0, .int 0, .int 0, .int 0, .int 0, .int 0, .int 0]) inT5 tyX5 tyX5_ok cl_L_25 ia_M in_M rfl (by decide) (Nat.le_of_ble_eq_true rfl) (Nat.le_of_ble_eq_true rfl) d_L_law_8 (kd_step 48) (kd_self 48) (fun q48 _ => ?_)
  refine v_dup hX d_L_law_11 rfl ?_
  refine c_I hX (rest := [.ref q48]) hl (c_M_init rfl) ml_L_27 im_M_init in_M cd_M_init rfl q_M_init ⟨(Nat.le_of_ble_eq_true rfl), (Nat.le_of_ble_eq_true rfl)⟩ rfl rfl rfl (Nat.le_of_ble_eq_true rfl) d_L_law_12 ⟨(Nat.le_of_ble_eq_true rfl), (Nat.le_of_ble_eq_true rfl)⟩ (fun rv d3 lo3 va3 kc ns hp => ?_)
  obtain ⟨rfl, rfl, e48, hlow, hm3, rfl, rfl⟩ := hp
  replace e48 : lo3 48 = q48 := e48
  have hlo : ∀ k, k < 48 → lo3 k = lo2 k := fun k h => ((hlow k (Nat.ble_eq_true_of_le h)).1).trans (va_up_ne _ _ (by omega))
  have hv3 : ∀ k, k < 48 → va3 k = pcell cI cN lo3 k := fun k h => (((hlow k (Nat.ble_eq_true_of_le h)).2.trans (va_up_ne _ _ (by omega))).trans (hp48 k (Nat.ble_eq_true_of_le h))).trans (pcell_cg (l2 := lo3) (loc := lo2) hlo k).symm
  have hm4 : ∀ k, 48 ≤ k → k < 76 → va3 k = mcell cI cB cZ lo3 k := fun k h1 h2 => hm3 k (by rw [Bool.and_eq_true]; exact ⟨Nat.ble_eq_true_of_le h1, Nat.ble_eq_true_of_le h2⟩)
  show V X D CL A _ _ _ _ _ _ _ [.ref q48]
  refine v_astore_n (lv' := [some (.ref b), some (.ref q0), some (.ref q48), none, none, none, none]) hX d_L_law_15 rfl (Nat.le_of_ble_eq_true rfl) rfl ?_
  refine v_iconst (v := 1) hX d_L_law_16 (by decide) ?_
  refine v_newp hX 76 3 (kd 77) (N := 1) (ty := .long) (1, .inr (.inl (fun _ => 0))) rfl (fun _ => rfl) (fun _ h => h) ac_long rfl (by decide) (by decide) (Nat.le_of_ble_eq_true rfl) (Nat.le_of_ble_eq_true rfl) (Nat.le_of_ble_eq_true rfl) d_L_law_17 (kd_step 76) (kd_self 76) (fun q76 => ?_)
  refine v_astore_n (lv' := [some (.ref b), some (.ref q0), some (.ref q48), some (.ref q76), none, none, none]) hX d_L_law_19 rfl (Nat.le_of_ble_eq_true rfl) rfl ?_
  refine v_iconst (v := 0) hX d_L_law_20 (by decide) ?_
  refine v_istore (lv' := [some (.ref b), some (.ref q0), some (.ref q48), some (.ref q76), some (.int 0), none, none]) hX d_L_law_21 (Nat.le_of_ble_eq_true rfl) rfl ?_
  obtain ⟨l4, hl4⟩ : ∃ z, z = va_up lo3 76 q76 := ⟨_, rfl⟩
  obtain ⟨v4, hv4⟩ : ∃ z, z = va_up va3 76 (.inl (cJ, 1, .inr (.inl (fun _ => 0)))) := ⟨_, rfl⟩
  rw [← hl4, ← hv4]
  have hl4k : ∀ k, k < 76 → l4 k = lo3 k := fun k h => by rw [hl4]; exact va_up_ne _ _ (by omega)
  have hv4k : ∀ k, k < 76 → v4 k = va3 k := fun k h => by rw [hv4]; exact va_up_ne _ _ (by omega)
  have hst := start_ok (cI := cI) (cB := cB) (cZ := cZ) (cJ := cJ) (cN := cN) (loc := l4) (val := v4) (f := fun _ => 0) (fun k h => by rw [hv4k k (by omega), pcell_cg (l2 := l4) (loc := lo3) (fun j hj => hl4k j (by omega))]; exact hv3 k h) (fun k h1 h2 => by rw [hv4k k (by omega), mcell_cg (l2 := l4) (loc := lo3) (fun j _ hj => hl4k j (by omega))]; exact hm4 k h1 h2) (by rw [hv4]; exact va_up_self _ _ _)
  have e1 : l4 0 = q0 := by rw [hl4k 0 (by omega), hlo 0 (by omega)]; exact e0
  have e2 : l4 48 = q48 := by rw [hl4k 48 (by omega)]; exact e48
  have e3 : l4 76 = q76 := by rw [hl4]; exact va_up_self _ _ _
  rw [e1, e2, e3] at hst
  refine v_mv (t := 47) (j := 1000) (dom2 := fun k => k = 1000 ∨ (kd 77 k ∧ k ≠ 47)) (show 47 < 77 by omega) (by omega) (fun k => Iff.rfl) rfl rfl ?_
  exact law_loop hXe hX hA hr hl htr hL hs (c0 := 1000) (s0 := 200000) (p0 := Phi rs00) (by omega) (by omega) 514 0 _ _ _ _ _ _ none none (by omega) (by omega) hst ⟨by show _ + Phi rs00 ≤ _ + Phi rs00 + _; omega, by show _ + Phi rs00 ≤ _ + Phi rs00 + _; omega⟩
