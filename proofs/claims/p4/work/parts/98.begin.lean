set_option maxHeartbeats 4000000 in
set_option maxRecDepth 100000 in
theorem c_P_begin {l : Launch} {D : va_G} {A : Nat → Prop} {cI cB cZ cJ cN : ClassId} {ob : Nat → Nat} {td : Nat} {rs : RS} {sh : Nat → Int32 × Int32 × Int32} {T : TR} {n ha ch ts : Nat} {hp : Int32} {dom : Nat → Prop} {loc : Nat → Nat} {val : Nat → va_E} (hI : LayI cI ob td rs sh dom loc val) (hN : NodesI ob T n dom loc val) (hD : DeskI cN ob n ha ch ts hp dom loc val) (hU : TreeU T n) (hha : ha < n) (hts : ts = 5 ∨ ts = 30) (hT : TreeI T n) (htl : (rs 3).1 ≤ 4300) (htr : l.stackTraces = false) (k x : Int32) : kMX l y_P_begin (Cond.code y_P_begin b_P_begin 4 (some FieldType.int) :: TT) (rmQ 60 (Phi rs)) D CL (TY cI cB cZ cJ cN) A [.ref (ob 0), .int k, .int x] dom loc val (fun rv d lo va kc ns => okB T n ha k x ∧ rv = some (.int (nI n)) ∧ ∃ (ob2 : Nat → Nat) (rs2 : RS), (∀ j, j ≠ 1000 + n → ob2 j = ob j) ∧ (∀ j, d j ↔ (j = 1000 + n ∨ dom j)) ∧ LayI cI ob2 td rs2 sh d lo va ∧ ((rs2 3).1 = (rs 3).1 + (if k = 9 then 1 else 0) ∧ ∀ j, j ≠ 3 → rs2 j = rs j) ∧ NodesI ob2 (tkT (exT T n ha k (bgN k x)) ha n) (n + 1) d lo va ∧ DeskI cN ob2 (n + 1) (if k = 2 ∨ k = 9 then ha else n) ch ts hp d lo va ∧ (ns + Phi rs ≤ Phi rs2 + 12 ∧ 16 * kc + Phi rs ≤ Phi rs2 + 16) ∧ frC loc val lo va) (fun E d lo va kc ns => (E = "java/lang/IllegalArgumentException" ∨ E = "java/lang/IllegalStateException") ∧ ¬ okB T n ha k x ∧ dom = d ∧ loc = lo ∧ val = va ∧ kc = 1 ∧ ns = 6) := by
  refine kMX_of (lv0 := [some (.ref (ob 0)), some (.int k), some (.int x), none]) (own := "ProsePages") (by decide) rfl (List.forall_mem_cons.mpr ⟨rfl, List.forall_mem_cons.mpr ⟨rfl, List.forall_mem_cons.mpr ⟨rfl, fun _ h => nomatch h⟩⟩⟩) (Nat.le_of_ble_eq_true rfl) rfl (Nat.le_of_ble_eq_true rfl) (fun X hl hX hemp hE hthr => ?_)
  have hP : 0 + Phi rs ≤ Phi rs + 12 ∧ 16 * 0 + Phi rs ≤ Phi rs + 16 := ⟨by omega, by omega⟩
  have hx : Phi rs ≤ 2663816 := hI.1.phi
  have hn3 := hN.1
  have hde := (hT.2.2 ha hha).2
  refine v_aload_n hX d_P_begin_0 rfl rfl ?_
  refine c_V hX 0 (rest := []) hl (c_P_refused hI hN hD hU hha hts hde) ml_P_43 im_P_isNodeRefused se_P_isNodeRefused in_P cd_P_isNodeRefused rfl q_P_isNodeRefused ⟨(Nat.le_of_ble_eq_true rfl), (Nat.le_of_ble_eq_true rfl)⟩ hD.1.1 hD.1.2.1 hD.1.2.2 rfl rfl rfl rfl (Nat.le_of_ble_eq_true rfl) d_P_begin_1 ⟨by have a := hP.2; have b := hx; show _ + (120 + (2663816 - Phi rs) / 16) ≤ 140 + (2663816 - Phi rs) / 16; omega, by have a := hP.1; have b := hx; show _ + (700000 + (2663816 - Phi rs)) ≤ 700100 + (2663816 - Phi rs); omega⟩ (fun rv d2 lo2 va2 kc ns hp => ?_)
  obtain ⟨rfl, rfl, rfl, rfl, rfl, rfl⟩ := hp
  show V X D CL A _ _ _ _ _ _ _ (.int (if 300 ≤ n then 1 else if 12 ≤ tD T ha then 1 else 0) :: [])
  refine v_if_eq hX d_P_begin_4 (tgt := 17) (by decide) (fun c4 => ?_) (fun c4 => ?_)
  · refine v_iload_n hX d_P_begin_17 rfl rfl ?_
    refine v_if_lt hX d_P_begin_18 (tgt := 38) (by decide) (fun c18 => ?_) (fun c18 => ?_)
    · exact v_throw hX hemp (text := "no such kind, or not here") (names := ["java/lang/RuntimeException", "java/lang/Exception"]) (hthr "java/lang/IllegalArgumentException" dom loc val (0 + 1) (0 + 6) ⟨Or.inl rfl, fun z => z.2.1 c18, rfl, rfl, rfl, rfl, rfl⟩) (by rw [hl]; exact htr) (by decide) (by decide) cl_P_58 in_IA rfl (by decide) at_iae d_P_begin_38 d_P_begin_41 d_P_begin_42 d_P_begin_44 d_P_begin_47 (Nat.le_of_ble_eq_true rfl) (Nat.le_of_ble_eq_true rfl) (by have a := hP.2; have b := hx; show _ + 1 ≤ 140 + (2663816 - Phi rs) / 16; omega) (by have a := hP.1; have b := hx; show _ + 6 ≤ 700100 + (2663816 - Phi rs); omega) rfl (Nat.le_of_ble_eq_true rfl) (Nat.le_refl _) (Nat.le_refl _)
    · refine v_iload_n hX d_P_begin_21 rfl rfl ?_
      refine v_bipush (v := 9) hX d_P_begin_22 (by decide) ?_
      refine v_icmp_gt hX d_P_begin_24 (tgt := 38) (by decide) (fun c24 => ?_) (fun c24 => ?_)
      · exact v_throw hX hemp (text := "no such kind, or not here") (names := ["java/lang/RuntimeException", "java/lang/Exception"]) (hthr "java/lang/IllegalArgumentException" dom loc val (0 + 1) (0 + 6) ⟨Or.inl rfl, fun z => z.2.2.1 c24, rfl, rfl, rfl, rfl, rfl⟩) (by rw [hl]; exact htr) (by decide) (by decide) cl_P_58 in_IA rfl (by decide) at_iae d_P_begin_38 d_P_begin_41 d_P_begin_42 d_P_begin_44 d_P_begin_47 (Nat.le_of_ble_eq_true rfl) (Nat.le_of_ble_eq_true rfl) (by have a := hP.2; have b := hx; show _ + 1 ≤ 140 + (2663816 - Phi rs) / 16; omega) (by have a := hP.1; have b := hx; show _ + 6 ≤ 700100 + (2663816 - Phi rs); omega) rfl (Nat.le_of_ble_eq_true rfl) (Nat.le_refl _) (Nat.le_refl _)
      · refine v_aload_n hX d_P_begin_27 rfl rfl ?_
        refine v_get hX 0 (v := .ref (ob (1000 + ha))) inT4 hD.1.1 hD.1.2.1 hD.1.2.2 rfl 3 (by decide) fl_P_36 rfl rfl d_P_begin_28 ?_
        refine v_iload_n hX d_P_begin_31 rfl rfl ?_
        refine c_V hX (1000 + ha) (rest := []) hl (c_N_mayHold hN hha k) ml_P_54 im_N_mayHold se_N_mayHold in_N cd_N_mayHold rfl q_N_mayHold ⟨(Nat.le_of_ble_eq_true rfl), (Nat.le_of_ble_eq_true rfl)⟩ (hN.2 ha hha).1 (hN.2 ha hha).2.1 (hN.2 ha hha).2.2.choose_spec.choose_spec.choose_spec.choose_spec rfl rfl rfl rfl (Nat.le_of_ble_eq_true rfl) d_P_begin_32 ⟨by have a := hP.2; have b := hx; show _ + 0 ≤ 140 + (2663816 - Phi rs) / 16; omega, by have a := hP.1; have b := hx; show _ + 0 ≤ 700100 + (2663816 - Phi rs); omega⟩ (fun rv d2 lo2 va2 kc ns hp => ?_)
        obtain ⟨rfl, rfl, rfl, rfl, rfl, rfl⟩ := hp
        show V X D CL A _ _ _ _ _ _ _ (.int (mhC (tK T ha) k) :: [])
        refine v_if_ne hX d_P_begin_35 (tgt := 48) (by decide) (fun c35 => ?_) (fun c35 => ?_)
        · refine v_iload_n hX d_P_begin_48 rfl rfl ?_
          refine v_iload_n hX d_P_begin_49 rfl rfl ?_
          refine c_S hX (rest := []) hl (c_P_isNumberOf k x) ml_P_63 sm_P_isNumberOf in_P cd_P_isNumberOf rfl q_P_isNumberOf ⟨(Nat.le_of_ble_eq_true rfl), (Nat.le_of_ble_eq_true rfl)⟩ rfl rfl rfl (Nat.le_of_ble_eq_true rfl) d_P_begin_50 ⟨by have a := hP.2; have b := hx; show _ + 0 ≤ 140 + (2663816 - Phi rs) / 16; omega, by have a := hP.1; have b := hx; show _ + 0 ≤ 700100 + (2663816 - Phi rs); omega⟩ (fun rv d2 lo2 va2 kc ns hp => ?_)
          obtain ⟨rfl, rfl, rfl, rfl, rfl, rfl⟩ := hp
          show V X D CL A _ _ _ _ _ _ _ (.int (numC k x) :: [])
          refine v_if_ne hX d_P_begin_53 (tgt := 66) (by decide) (fun c53 => ?_) (fun c53 => ?_)
          · have hroom := okB_room (T := T) (n := n) (ha := ha) (k := k) (x := x) c4
            refine v_aload_n hX d_P_begin_66 rfl rfl ?_
            refine v_iload_n hX d_P_begin_67 rfl rfl ?_
            refine v_iload_n hX d_P_begin_68 rfl rfl ?_
            refine v_iconst (v := 1) hX d_P_begin_69 (by decide) ?_
            refine v_icmp_eq hX d_P_begin_70 (tgt := 79) (by decide) (fun c70 => ?_) (fun c70 => ?_)
            · refine v_iload_n hX d_P_begin_79 rfl rfl ?_
              refine v_goto hX d_P_begin_80 (tgt := 84) (by decide) ?_
              have hold0 := 0
              refine c_V hX 0 (rest := []) hl (c_P_addNode hI hN hD hU hha hts hT hroom.1 k x) ml_P_69 im_P_addNode se_P_addNode in_P cd_P_addNode rfl q_P_addNode ⟨(Nat.le_of_ble_eq_true rfl), (Nat.le_of_ble_eq_true rfl)⟩ hD.1.1 hD.1.2.1 hD.1.2.2 rfl rfl rfl rfl (Nat.le_of_ble_eq_true rfl) d_P_begin_84 ⟨by have a := hP.2; have b := hx; show _ + (120 + (2663816 - Phi rs) / 16) ≤ 140 + (2663816 - Phi rs) / 16; omega, by have a := hP.1; have b := hx; show _ + (700000 + (2663816 - Phi rs)) ≤ 700100 + (2663816 - Phi rs); omega⟩ (fun rv d2 lo1 va1 kc1 ns1 hp => ?_)
              obtain ⟨ob, hobk, rfl, hdm, hI1, hN1, hD1, rfl, rfl, hf1⟩ := hp
              show V X D CL A _ _ _ _ _ _ _ (.ref (ob (1000 + n)) :: [])
              rw [← hobk 0 (by omega)]
              have hU2 := tk_U hU hha k x
              have hP1 : (0 + 1 - 1 + (0 + 12)) + Phi rs ≤ Phi rs + 12 ∧ 16 * (0 + 1) + Phi rs ≤ Phi rs + 16 := ⟨by omega, by omega⟩
              refine v_astore_n (lv' := [some (.ref (ob 0)), some (.int k), some (.int x), some (.ref (ob (1000 + n)))]) hX d_P_begin_87 rfl (Nat.le_of_ble_eq_true rfl) rfl ?_
              refine v_iload_n hX d_P_begin_88 rfl rfl ?_
              refine v_bipush (v := 9) hX d_P_begin_89 (by decide) ?_
              refine v_icmp_ne hX d_P_begin_91 (tgt := 121) (by decide) (fun c91 => ?_) (fun c91 => ?_)
              · refine v_iload_n hX d_P_begin_121 rfl rfl ?_
                refine v_sipush (v := (-1541)) hX d_P_begin_122 (by decide) ?_
                refine c_S hX (rest := []) hl (c_P_isOneOf2 k (-1541)) ml_P_90 sm_P_isOneOf in_P cd_P_isOneOf rfl q_P_isOneOf ⟨(Nat.le_of_ble_eq_true rfl), (Nat.le_of_ble_eq_true rfl)⟩ rfl rfl rfl (Nat.le_of_ble_eq_true rfl) d_P_begin_125 ⟨by have a := hP1.2; have b := hx; show _ + 0 ≤ 140 + (2663816 - Phi rs) / 16; omega, by have a := hP1.1; have b := hx; show _ + 0 ≤ 700100 + (2663816 - Phi rs); omega⟩ (fun rv d2 lo2 va2 kc ns hp => ?_)
                obtain ⟨rfl, rfl, rfl, rfl, rfl, rfl⟩ := hp
                show V X D CL A _ _ _ _ _ _ _ (.int (oneOf k (-1541)) :: [])
                refine v_if_eq hX d_P_begin_128 (tgt := 136) (by decide) (fun c128 => ?_) (fun c128 => ?_)
                · refine v_aload_n hX d_P_begin_136 rfl rfl ?_
                  refine v_get hX (1000 + n) (v := .int (nI n)) inT0 (hN1.2 n (Nat.lt_succ_self n)).1 (hN1.2 n (Nat.lt_succ_self n)).2.1 (hN1.2 n (Nat.lt_succ_self n)).2.2.choose_spec.choose_spec.choose_spec.choose_spec rfl 0 (by decide) fl_P_93 rfl rfl d_P_begin_137 ?_
                  exact v_iret hX hE d_P_begin_140 (by have a := hP1.2; have b := hx; show _ ≤ 140 + (2663816 - Phi rs) / 16; omega) (by have a := hP1.1; have b := hx; show _ ≤ 700100 + (2663816 - Phi rs); omega) ⟨⟨c4, c18, c24, c35, c53⟩, rfl, ob, rs, hobk, hdm, hI1, ⟨(by rw [if_neg c91]; have a : (rs 3).1 = (rs 3).1 := rfl; omega), (fun j hj => rfl)⟩, (by unfold bgN; rw [if_pos (Or.inl c70)]; exact hN1), (by rw [if_pos ((hold9 k (ks_of ⟨Int32.not_lt.mp c18, Int32.le_trans (Int32.not_lt.mp c24) (by decide)⟩) (Int32.not_lt.mp c24)).mp c128)]; exact hD1), ⟨by have a := hP1.1; omega, by have a := hP1.2; omega⟩, hf1⟩
                · refine v_aload_n hX d_P_begin_131 rfl rfl ?_
                  refine v_aload_n hX d_P_begin_132 rfl rfl ?_
                  refine v_desk hX hI1 hN1 hD1 3 (v := .ref (ob (1000 + n))) (ha2 := n) (ch2 := ch) (ts2 := ts) (hp2 := hp) (by decide) fl_P_36 rfl rfl rfl rfl d_P_begin_133 rfl (fun va2 hI2 hN2 hD2 hf2 => ?_)
                  refine v_aload_n hX d_P_begin_136 rfl rfl ?_
                  refine v_get hX (1000 + n) (v := .int (nI n)) inT0 (hN2.2 n (Nat.lt_succ_self n)).1 (hN2.2 n (Nat.lt_succ_self n)).2.1 (hN2.2 n (Nat.lt_succ_self n)).2.2.choose_spec.choose_spec.choose_spec.choose_spec rfl 0 (by decide) fl_P_93 rfl rfl d_P_begin_137 ?_
                  exact v_iret hX hE d_P_begin_140 (by have a := hP1.2; have b := hx; show _ ≤ 140 + (2663816 - Phi rs) / 16; omega) (by have a := hP1.1; have b := hx; show _ ≤ 700100 + (2663816 - Phi rs); omega) ⟨⟨c4, c18, c24, c35, c53⟩, rfl, ob, rs, hobk, hdm, hI2, ⟨(by rw [if_neg c91]; have a : (rs 3).1 = (rs 3).1 := rfl; omega), (fun j hj => rfl)⟩, (by unfold bgN; rw [if_pos (Or.inl c70)]; exact hN2), (by rw [if_neg (fun z => c128 ((hold9 k (ks_of ⟨Int32.not_lt.mp c18, Int32.le_trans (Int32.not_lt.mp c24) (by decide)⟩) (Int32.not_lt.mp c24)).mpr z))]; exact hD2), ⟨by have a := hP1.1; omega, by have a := hP1.2; omega⟩, (hf1.trans hf2)⟩
              · refine v_aload_n hX d_P_begin_94 rfl rfl ?_
                refine v_get hX 0 (v := .ref (ob 2)) inT4 hD1.1.1 hD1.1.2.1 hD1.1.2.2 rfl 1 (by decide) fl_P_18 rfl rfl d_P_begin_95 ?_
                refine v_get hX 2 (v := .ref (ob 3)) inT2 hI1.2.2.2.1.1 hI1.2.2.2.1.2.1 hI1.2.2.2.1.2.2 rfl 0 (by decide) fl_P_73 rfl rfl d_P_begin_98 ?_
                refine v_sipush (v := 256) hX d_P_begin_101 (by decide) ?_
                refine c_V hX 3 (rest := []) hl (L_add hI1 3 (by decide) 256 (by have a : (rs 3).1 = (rs 3).1 := rfl; have b : mxOf 3 = 4400 := rfl; omega)) ml_P_77 im_R_add se_R_add in_R cd_R_add rfl q_R_add ⟨(Nat.le_of_ble_eq_true rfl), (Nat.le_of_ble_eq_true rfl)⟩ (hI1.1.1 3 (by decide)).1 (hI1.1.1 3 (by decide)).2.2.1 (hI1.1.1 3 (by decide)).2.2.2.1.v rfl rfl rfl rfl (Nat.le_of_ble_eq_true rfl) d_P_begin_104 ⟨by have a := hP1.2; have b := hx; show _ + 20 ≤ 140 + (2663816 - Phi rs) / 16; omega, by have a := hP1.1; have b := hx; show _ + 700000 ≤ 700100 + (2663816 - Phi rs); omega⟩ (fun rv d2 lo3 va3 kc3 ns3 hp => ?_)
                obtain ⟨rfl, rfl, ⟨rs3, hI3, hs3, ho3, hp3⟩, hf3⟩ := hp
                show V X D CL A _ _ _ _ _ _ _ []
                have hP3 : (0 + 12 + ns3) + Phi rs ≤ Phi rs3 + 12 ∧ 16 * (0 + 1 + kc3) + Phi rs ≤ Phi rs3 + 16 := ⟨by have a := hP1.1; have b := hp3.1; omega, by have a := hP1.2; have b := hp3.2; omega⟩
                have hx3 : Phi rs3 ≤ 2663816 := hI3.1.phi
                have hN3 := hN1.fr hf3
                have hD3 := hD1.frL hf3
                refine v_aload_n hX d_P_begin_107 rfl rfl ?_
                refine v_aload_n hX d_P_begin_108 rfl rfl ?_
                refine v_get hX 0 (v := .ref (ob 2)) inT4 hD3.1.1 hD3.1.2.1 hD3.1.2.2 rfl 1 (by decide) fl_P_18 rfl rfl d_P_begin_109 ?_
                refine v_get hX 2 (v := .ref (ob 3)) inT2 hI3.2.2.2.1.1 hI3.2.2.2.1.2.1 hI3.2.2.2.1.2.2 rfl 0 (by decide) fl_P_73 rfl rfl d_P_begin_112 ?_
                refine c_V hX 3 (rest := [.ref (ob (1000 + n))]) hl (L_size hI3 3 (by decide)) ml_P_83 im_R_size se_R_size in_R cd_R_size rfl q_R_size ⟨(Nat.le_of_ble_eq_true rfl), (Nat.le_of_ble_eq_true rfl)⟩ (hI3.1.1 3 (by decide)).1 (hI3.1.1 3 (by decide)).2.2.1 (hI3.1.1 3 (by decide)).2.2.2.1.v rfl rfl rfl rfl (Nat.le_of_ble_eq_true rfl) d_P_begin_115 ⟨by have a := hP3.2; have b := hx3; show _ + 100 ≤ 140 + (2663816 - Phi rs) / 16; omega, by have a := hP3.1; have b := hx3; show _ + 200000 ≤ 700100 + (2663816 - Phi rs); omega⟩ (fun rv d3 lo9 va9 kc ns hp => ?_)
                obtain ⟨rfl, rfl, rfl, rfl, rfl, rfl⟩ := hp
                show V X D CL A _ _ _ _ _ _ _ (.int (nI (rs3 3).1) :: [.ref (ob (1000 + n))])
                refine c_V hX (1000 + n) (rest := []) hl (c_N_reachTo hN3 hU2 (Nat.lt_succ_self n) (nI (rs3 3).1)) ml_P_87 im_N_reachTo se_N_reachTo in_N cd_N_reachTo rfl q_N_reachTo ⟨(Nat.le_of_ble_eq_true rfl), (Nat.le_of_ble_eq_true rfl)⟩ (hN3.2 n (Nat.lt_succ_self n)).1 (hN3.2 n (Nat.lt_succ_self n)).2.1 (hN3.2 n (Nat.lt_succ_self n)).2.2.choose_spec.choose_spec.choose_spec.choose_spec rfl rfl rfl rfl (Nat.le_of_ble_eq_true rfl) d_P_begin_118 ⟨by have a := hP3.2; have b := hx3; show _ + 0 ≤ 140 + (2663816 - Phi rs) / 16; omega, by have a := hP3.1; have b := hx3; show _ + 0 ≤ 700100 + (2663816 - Phi rs); omega⟩ (fun rv d3 lo9 va4 kc ns hp => ?_)
                obtain ⟨rfl, rfl, rfl, rfl, rfl, hN4, hf4⟩ := hp
                show V X D CL A _ _ _ _ _ _ _ []
                have hI4 := hI3.frO hf4
                have hD4 := hD3.frO hf4
                refine v_iload_n hX d_P_begin_121 rfl rfl ?_
                refine v_sipush (v := (-1541)) hX d_P_begin_122 (by decide) ?_
                refine c_S hX (rest := []) hl (c_P_isOneOf2 k (-1541)) ml_P_90 sm_P_isOneOf in_P cd_P_isOneOf rfl q_P_isOneOf ⟨(Nat.le_of_ble_eq_true rfl), (Nat.le_of_ble_eq_true rfl)⟩ rfl rfl rfl (Nat.le_of_ble_eq_true rfl) d_P_begin_125 ⟨by have a := hP3.2; have b := hx3; show _ + 0 ≤ 140 + (2663816 - Phi rs) / 16; omega, by have a := hP3.1; have b := hx3; show _ + 0 ≤ 700100 + (2663816 - Phi rs); omega⟩ (fun rv d2 lo2 va2 kc ns hp => ?_)
                obtain ⟨rfl, rfl, rfl, rfl, rfl, rfl⟩ := hp
                show V X D CL A _ _ _ _ _ _ _ (.int (oneOf k (-1541)) :: [])
                refine v_if_eq hX d_P_begin_128 (tgt := 136) (by decide) (fun c128 => ?_) (fun c128 => ?_)
                · refine v_aload_n hX d_P_begin_136 rfl rfl ?_
                  refine v_get hX (1000 + n) (v := .int (nI n)) inT0 (hN4.2 n (Nat.lt_succ_self n)).1 (hN4.2 n (Nat.lt_succ_self n)).2.1 (hN4.2 n (Nat.lt_succ_self n)).2.2.choose_spec.choose_spec.choose_spec.choose_spec rfl 0 (by decide) fl_P_93 rfl rfl d_P_begin_137 ?_
                  exact v_iret hX hE d_P_begin_140 (by have a := hP3.2; have b := hx3; show _ ≤ 140 + (2663816 - Phi rs) / 16; omega) (by have a := hP3.1; have b := hx3; show _ ≤ 700100 + (2663816 - Phi rs); omega) ⟨⟨c4, c18, c24, c35, c53⟩, rfl, ob, rs3, hobk, hdm, hI4, ⟨(by rw [if_pos c91]; have a : (rs3 3).1 = ((rs 3).1 + 1) := (eq_add1 hs3 rfl); omega), (fun j hj => ((ho3 j hj).trans rfl))⟩, (by unfold bgN; rw [if_pos (Or.inl c70)]; exact hN4), (by rw [if_pos ((hold9 k (ks_of ⟨Int32.not_lt.mp c18, Int32.le_trans (Int32.not_lt.mp c24) (by decide)⟩) (Int32.not_lt.mp c24)).mp c128)]; exact hD4), ⟨by have a := hP3.1; omega, by have a := hP3.2; omega⟩, ((hf1.trans hf3.toC).trans hf4.toC)⟩
                · refine v_aload_n hX d_P_begin_131 rfl rfl ?_
                  refine v_aload_n hX d_P_begin_132 rfl rfl ?_
                  refine v_desk hX hI4 hN4 hD4 3 (v := .ref (ob (1000 + n))) (ha2 := n) (ch2 := ch) (ts2 := ts) (hp2 := hp) (by decide) fl_P_36 rfl rfl rfl rfl d_P_begin_133 rfl (fun va5 hI5 hN5 hD5 hf5 => ?_)
                  refine v_aload_n hX d_P_begin_136 rfl rfl ?_
                  refine v_get hX (1000 + n) (v := .int (nI n)) inT0 (hN5.2 n (Nat.lt_succ_self n)).1 (hN5.2 n (Nat.lt_succ_self n)).2.1 (hN5.2 n (Nat.lt_succ_self n)).2.2.choose_spec.choose_spec.choose_spec.choose_spec rfl 0 (by decide) fl_P_93 rfl rfl d_P_begin_137 ?_
                  exact v_iret hX hE d_P_begin_140 (by have a := hP3.2; have b := hx3; show _ ≤ 140 + (2663816 - Phi rs) / 16; omega) (by have a := hP3.1; have b := hx3; show _ ≤ 700100 + (2663816 - Phi rs); omega) ⟨⟨c4, c18, c24, c35, c53⟩, rfl, ob, rs3, hobk, hdm, hI5, ⟨(by rw [if_pos c91]; have a : (rs3 3).1 = ((rs 3).1 + 1) := (eq_add1 hs3 rfl); omega), (fun j hj => ((ho3 j hj).trans rfl))⟩, (by unfold bgN; rw [if_pos (Or.inl c70)]; exact hN5), (by rw [if_neg (fun z => c128 ((hold9 k (ks_of ⟨Int32.not_lt.mp c18, Int32.le_trans (Int32.not_lt.mp c24) (by decide)⟩) (Int32.not_lt.mp c24)).mpr z))]; exact hD5), ⟨by have a := hP3.1; omega, by have a := hP3.2; omega⟩, (((hf1.trans hf3.toC).trans hf4.toC).trans hf5)⟩
            · refine v_iload_n hX d_P_begin_73 rfl rfl ?_
              refine v_bipush (v := 6) hX d_P_begin_74 (by decide) ?_
              refine v_icmp_ne hX d_P_begin_76 (tgt := 83) (by decide) (fun c76 => ?_) (fun c76 => ?_)
              · refine v_iconst (v := 0) hX d_P_begin_83 (by decide) ?_
                have hold0 := 0
                refine c_V hX 0 (rest := []) hl (c_P_addNode hI hN hD hU hha hts hT hroom.1 k 0) ml_P_69 im_P_addNode se_P_addNode in_P cd_P_addNode rfl q_P_addNode ⟨(Nat.le_of_ble_eq_true rfl), (Nat.le_of_ble_eq_true rfl)⟩ hD.1.1 hD.1.2.1 hD.1.2.2 rfl rfl rfl rfl (Nat.le_of_ble_eq_true rfl) d_P_begin_84 ⟨by have a := hP.2; have b := hx; show _ + (120 + (2663816 - Phi rs) / 16) ≤ 140 + (2663816 - Phi rs) / 16; omega, by have a := hP.1; have b := hx; show _ + (700000 + (2663816 - Phi rs)) ≤ 700100 + (2663816 - Phi rs); omega⟩ (fun rv d2 lo6 va6 kc6 ns6 hp => ?_)
                obtain ⟨ob, hobk, rfl, hdm, hI6, hN6, hD6, rfl, rfl, hf6⟩ := hp
                show V X D CL A _ _ _ _ _ _ _ (.ref (ob (1000 + n)) :: [])
                rw [← hobk 0 (by omega)]
                have hU2 := tk_U hU hha k 0
                have hP6 : (0 + 1 - 1 + (0 + 12)) + Phi rs ≤ Phi rs + 12 ∧ 16 * (0 + 1) + Phi rs ≤ Phi rs + 16 := ⟨by omega, by omega⟩
                refine v_astore_n (lv' := [some (.ref (ob 0)), some (.int k), some (.int x), some (.ref (ob (1000 + n)))]) hX d_P_begin_87 rfl (Nat.le_of_ble_eq_true rfl) rfl ?_
                refine v_iload_n hX d_P_begin_88 rfl rfl ?_
                refine v_bipush (v := 9) hX d_P_begin_89 (by decide) ?_
                refine v_icmp_ne hX d_P_begin_91 (tgt := 121) (by decide) (fun c91 => ?_) (fun c91 => ?_)
                · refine v_iload_n hX d_P_begin_121 rfl rfl ?_
                  refine v_sipush (v := (-1541)) hX d_P_begin_122 (by decide) ?_
                  refine c_S hX (rest := []) hl (c_P_isOneOf2 k (-1541)) ml_P_90 sm_P_isOneOf in_P cd_P_isOneOf rfl q_P_isOneOf ⟨(Nat.le_of_ble_eq_true rfl), (Nat.le_of_ble_eq_true rfl)⟩ rfl rfl rfl (Nat.le_of_ble_eq_true rfl) d_P_begin_125 ⟨by have a := hP6.2; have b := hx; show _ + 0 ≤ 140 + (2663816 - Phi rs) / 16; omega, by have a := hP6.1; have b := hx; show _ + 0 ≤ 700100 + (2663816 - Phi rs); omega⟩ (fun rv d2 lo2 va2 kc ns hp => ?_)
                  obtain ⟨rfl, rfl, rfl, rfl, rfl, rfl⟩ := hp
                  show V X D CL A _ _ _ _ _ _ _ (.int (oneOf k (-1541)) :: [])
                  refine v_if_eq hX d_P_begin_128 (tgt := 136) (by decide) (fun c128 => ?_) (fun c128 => ?_)
                  · refine v_aload_n hX d_P_begin_136 rfl rfl ?_
                    refine v_get hX (1000 + n) (v := .int (nI n)) inT0 (hN6.2 n (Nat.lt_succ_self n)).1 (hN6.2 n (Nat.lt_succ_self n)).2.1 (hN6.2 n (Nat.lt_succ_self n)).2.2.choose_spec.choose_spec.choose_spec.choose_spec rfl 0 (by decide) fl_P_93 rfl rfl d_P_begin_137 ?_
                    exact v_iret hX hE d_P_begin_140 (by have a := hP6.2; have b := hx; show _ ≤ 140 + (2663816 - Phi rs) / 16; omega) (by have a := hP6.1; have b := hx; show _ ≤ 700100 + (2663816 - Phi rs); omega) ⟨⟨c4, c18, c24, c35, c53⟩, rfl, ob, rs, hobk, hdm, hI6, ⟨(by rw [if_neg c91]; have a : (rs 3).1 = (rs 3).1 := rfl; omega), (fun j hj => rfl)⟩, (by unfold bgN; rw [if_neg (fun z => z.elim c70 c76)]; exact hN6), (by rw [if_pos ((hold9 k (ks_of ⟨Int32.not_lt.mp c18, Int32.le_trans (Int32.not_lt.mp c24) (by decide)⟩) (Int32.not_lt.mp c24)).mp c128)]; exact hD6), ⟨by have a := hP6.1; omega, by have a := hP6.2; omega⟩, hf6⟩
                  · refine v_aload_n hX d_P_begin_131 rfl rfl ?_
                    refine v_aload_n hX d_P_begin_132 rfl rfl ?_
                    refine v_desk hX hI6 hN6 hD6 3 (v := .ref (ob (1000 + n))) (ha2 := n) (ch2 := ch) (ts2 := ts) (hp2 := hp) (by decide) fl_P_36 rfl rfl rfl rfl d_P_begin_133 rfl (fun va7 hI7 hN7 hD7 hf7 => ?_)
                    refine v_aload_n hX d_P_begin_136 rfl rfl ?_
                    refine v_get hX (1000 + n) (v := .int (nI n)) inT0 (hN7.2 n (Nat.lt_succ_self n)).1 (hN7.2 n (Nat.lt_succ_self n)).2.1 (hN7.2 n (Nat.lt_succ_self n)).2.2.choose_spec.choose_spec.choose_spec.choose_spec rfl 0 (by decide) fl_P_93 rfl rfl d_P_begin_137 ?_
                    exact v_iret hX hE d_P_begin_140 (by have a := hP6.2; have b := hx; show _ ≤ 140 + (2663816 - Phi rs) / 16; omega) (by have a := hP6.1; have b := hx; show _ ≤ 700100 + (2663816 - Phi rs); omega) ⟨⟨c4, c18, c24, c35, c53⟩, rfl, ob, rs, hobk, hdm, hI7, ⟨(by rw [if_neg c91]; have a : (rs 3).1 = (rs 3).1 := rfl; omega), (fun j hj => rfl)⟩, (by unfold bgN; rw [if_neg (fun z => z.elim c70 c76)]; exact hN7), (by rw [if_neg (fun z => c128 ((hold9 k (ks_of ⟨Int32.not_lt.mp c18, Int32.le_trans (Int32.not_lt.mp c24) (by decide)⟩) (Int32.not_lt.mp c24)).mpr z))]; exact hD7), ⟨by have a := hP6.1; omega, by have a := hP6.2; omega⟩, (hf6.trans hf7)⟩
                · refine v_aload_n hX d_P_begin_94 rfl rfl ?_
                  refine v_get hX 0 (v := .ref (ob 2)) inT4 hD6.1.1 hD6.1.2.1 hD6.1.2.2 rfl 1 (by decide) fl_P_18 rfl rfl d_P_begin_95 ?_
                  refine v_get hX 2 (v := .ref (ob 3)) inT2 hI6.2.2.2.1.1 hI6.2.2.2.1.2.1 hI6.2.2.2.1.2.2 rfl 0 (by decide) fl_P_73 rfl rfl d_P_begin_98 ?_
                  refine v_sipush (v := 256) hX d_P_begin_101 (by decide) ?_
                  refine c_V hX 3 (rest := []) hl (L_add hI6 3 (by decide) 256 (by have a : (rs 3).1 = (rs 3).1 := rfl; have b : mxOf 3 = 4400 := rfl; omega)) ml_P_77 im_R_add se_R_add in_R cd_R_add rfl q_R_add ⟨(Nat.le_of_ble_eq_true rfl), (Nat.le_of_ble_eq_true rfl)⟩ (hI6.1.1 3 (by decide)).1 (hI6.1.1 3 (by decide)).2.2.1 (hI6.1.1 3 (by decide)).2.2.2.1.v rfl rfl rfl rfl (Nat.le_of_ble_eq_true rfl) d_P_begin_104 ⟨by have a := hP6.2; have b := hx; show _ + 20 ≤ 140 + (2663816 - Phi rs) / 16; omega, by have a := hP6.1; have b := hx; show _ + 700000 ≤ 700100 + (2663816 - Phi rs); omega⟩ (fun rv d2 lo8 va8 kc8 ns8 hp => ?_)
                  obtain ⟨rfl, rfl, ⟨rs8, hI8, hs8, ho8, hp8⟩, hf8⟩ := hp
                  show V X D CL A _ _ _ _ _ _ _ []
                  have hP8 : (0 + 12 + ns8) + Phi rs ≤ Phi rs8 + 12 ∧ 16 * (0 + 1 + kc8) + Phi rs ≤ Phi rs8 + 16 := ⟨by have a := hP6.1; have b := hp8.1; omega, by have a := hP6.2; have b := hp8.2; omega⟩
                  have hx8 : Phi rs8 ≤ 2663816 := hI8.1.phi
                  have hN8 := hN6.fr hf8
                  have hD8 := hD6.frL hf8
                  refine v_aload_n hX d_P_begin_107 rfl rfl ?_
                  refine v_aload_n hX d_P_begin_108 rfl rfl ?_
                  refine v_get hX 0 (v := .ref (ob 2)) inT4 hD8.1.1 hD8.1.2.1 hD8.1.2.2 rfl 1 (by decide) fl_P_18 rfl rfl d_P_begin_109 ?_
                  refine v_get hX 2 (v := .ref (ob 3)) inT2 hI8.2.2.2.1.1 hI8.2.2.2.1.2.1 hI8.2.2.2.1.2.2 rfl 0 (by decide) fl_P_73 rfl rfl d_P_begin_112 ?_
                  refine c_V hX 3 (rest := [.ref (ob (1000 + n))]) hl (L_size hI8 3 (by decide)) ml_P_83 im_R_size se_R_size in_R cd_R_size rfl q_R_size ⟨(Nat.le_of_ble_eq_true rfl), (Nat.le_of_ble_eq_true rfl)⟩ (hI8.1.1 3 (by decide)).1 (hI8.1.1 3 (by decide)).2.2.1 (hI8.1.1 3 (by decide)).2.2.2.1.v rfl rfl rfl rfl (Nat.le_of_ble_eq_true rfl) d_P_begin_115 ⟨by have a := hP8.2; have b := hx8; show _ + 100 ≤ 140 + (2663816 - Phi rs) / 16; omega, by have a := hP8.1; have b := hx8; show _ + 200000 ≤ 700100 + (2663816 - Phi rs); omega⟩ (fun rv d3 lo9 va9 kc ns hp => ?_)
                  obtain ⟨rfl, rfl, rfl, rfl, rfl, rfl⟩ := hp
                  show V X D CL A _ _ _ _ _ _ _ (.int (nI (rs8 3).1) :: [.ref (ob (1000 + n))])
                  refine c_V hX (1000 + n) (rest := []) hl (c_N_reachTo hN8 hU2 (Nat.lt_succ_self n) (nI (rs8 3).1)) ml_P_87 im_N_reachTo se_N_reachTo in_N cd_N_reachTo rfl q_N_reachTo ⟨(Nat.le_of_ble_eq_true rfl), (Nat.le_of_ble_eq_true rfl)⟩ (hN8.2 n (Nat.lt_succ_self n)).1 (hN8.2 n (Nat.lt_succ_self n)).2.1 (hN8.2 n (Nat.lt_succ_self n)).2.2.choose_spec.choose_spec.choose_spec.choose_spec rfl rfl rfl rfl (Nat.le_of_ble_eq_true rfl) d_P_begin_118 ⟨by have a := hP8.2; have b := hx8; show _ + 0 ≤ 140 + (2663816 - Phi rs) / 16; omega, by have a := hP8.1; have b := hx8; show _ + 0 ≤ 700100 + (2663816 - Phi rs); omega⟩ (fun rv d3 lo9 va9 kc ns hp => ?_)
                  obtain ⟨rfl, rfl, rfl, rfl, rfl, hN9, hf9⟩ := hp
                  show V X D CL A _ _ _ _ _ _ _ []
                  have hI9 := hI8.frO hf9
                  have hD9 := hD8.frO hf9
                  refine v_iload_n hX d_P_begin_121 rfl rfl ?_
                  refine v_sipush (v := (-1541)) hX d_P_begin_122 (by decide) ?_
                  refine c_S hX (rest := []) hl (c_P_isOneOf2 k (-1541)) ml_P_90 sm_P_isOneOf in_P cd_P_isOneOf rfl q_P_isOneOf ⟨(Nat.le_of_ble_eq_true rfl), (Nat.le_of_ble_eq_true rfl)⟩ rfl rfl rfl (Nat.le_of_ble_eq_true rfl) d_P_begin_125 ⟨by have a := hP8.2; have b := hx8; show _ + 0 ≤ 140 + (2663816 - Phi rs) / 16; omega, by have a := hP8.1; have b := hx8; show _ + 0 ≤ 700100 + (2663816 - Phi rs); omega⟩ (fun rv d2 lo2 va2 kc ns hp => ?_)
                  obtain ⟨rfl, rfl, rfl, rfl, rfl, rfl⟩ := hp
                  show V X D CL A _ _ _ _ _ _ _ (.int (oneOf k (-1541)) :: [])
                  refine v_if_eq hX d_P_begin_128 (tgt := 136) (by decide) (fun c128 => ?_) (fun c128 => ?_)
                  · refine v_aload_n hX d_P_begin_136 rfl rfl ?_
                    refine v_get hX (1000 + n) (v := .int (nI n)) inT0 (hN9.2 n (Nat.lt_succ_self n)).1 (hN9.2 n (Nat.lt_succ_self n)).2.1 (hN9.2 n (Nat.lt_succ_self n)).2.2.choose_spec.choose_spec.choose_spec.choose_spec rfl 0 (by decide) fl_P_93 rfl rfl d_P_begin_137 ?_
                    exact v_iret hX hE d_P_begin_140 (by have a := hP8.2; have b := hx8; show _ ≤ 140 + (2663816 - Phi rs) / 16; omega) (by have a := hP8.1; have b := hx8; show _ ≤ 700100 + (2663816 - Phi rs); omega) ⟨⟨c4, c18, c24, c35, c53⟩, rfl, ob, rs8, hobk, hdm, hI9, ⟨(by rw [if_pos c91]; have a : (rs8 3).1 = ((rs 3).1 + 1) := (eq_add1 hs8 rfl); omega), (fun j hj => ((ho8 j hj).trans rfl))⟩, (by unfold bgN; rw [if_neg (fun z => z.elim c70 c76)]; exact hN9), (by rw [if_pos ((hold9 k (ks_of ⟨Int32.not_lt.mp c18, Int32.le_trans (Int32.not_lt.mp c24) (by decide)⟩) (Int32.not_lt.mp c24)).mp c128)]; exact hD9), ⟨by have a := hP8.1; omega, by have a := hP8.2; omega⟩, ((hf6.trans hf8.toC).trans hf9.toC)⟩
                  · refine v_aload_n hX d_P_begin_131 rfl rfl ?_
                    refine v_aload_n hX d_P_begin_132 rfl rfl ?_
                    refine v_desk hX hI9 hN9 hD9 3 (v := .ref (ob (1000 + n))) (ha2 := n) (ch2 := ch) (ts2 := ts) (hp2 := hp) (by decide) fl_P_36 rfl rfl rfl rfl d_P_begin_133 rfl (fun va10 hI10 hN10 hD10 hf10 => ?_)
                    refine v_aload_n hX d_P_begin_136 rfl rfl ?_
                    refine v_get hX (1000 + n) (v := .int (nI n)) inT0 (hN10.2 n (Nat.lt_succ_self n)).1 (hN10.2 n (Nat.lt_succ_self n)).2.1 (hN10.2 n (Nat.lt_succ_self n)).2.2.choose_spec.choose_spec.choose_spec.choose_spec rfl 0 (by decide) fl_P_93 rfl rfl d_P_begin_137 ?_
                    exact v_iret hX hE d_P_begin_140 (by have a := hP8.2; have b := hx8; show _ ≤ 140 + (2663816 - Phi rs) / 16; omega) (by have a := hP8.1; have b := hx8; show _ ≤ 700100 + (2663816 - Phi rs); omega) ⟨⟨c4, c18, c24, c35, c53⟩, rfl, ob, rs8, hobk, hdm, hI10, ⟨(by rw [if_pos c91]; have a : (rs8 3).1 = ((rs 3).1 + 1) := (eq_add1 hs8 rfl); omega), (fun j hj => ((ho8 j hj).trans rfl))⟩, (by unfold bgN; rw [if_neg (fun z => z.elim c70 c76)]; exact hN10), (by rw [if_neg (fun z => c128 ((hold9 k (ks_of ⟨Int32.not_lt.mp c18, Int32.le_trans (Int32.not_lt.mp c24) (by decide)⟩) (Int32.not_lt.mp c24)).mpr z))]; exact hD10), ⟨by have a := hP8.1; omega, by have a := hP8.2; omega⟩, (((hf6.trans hf8.toC).trans hf9.toC).trans hf10)⟩
              · refine v_iload_n hX d_P_begin_79 rfl rfl ?_
                refine v_goto hX d_P_begin_80 (tgt := 84) (by decide) ?_
                have hold0 := 0
                refine c_V hX 0 (rest := []) hl (c_P_addNode hI hN hD hU hha hts hT hroom.1 k x) ml_P_69 im_P_addNode se_P_addNode in_P cd_P_addNode rfl q_P_addNode ⟨(Nat.le_of_ble_eq_true rfl), (Nat.le_of_ble_eq_true rfl)⟩ hD.1.1 hD.1.2.1 hD.1.2.2 rfl rfl rfl rfl (Nat.le_of_ble_eq_true rfl) d_P_begin_84 ⟨by have a := hP.2; have b := hx; show _ + (120 + (2663816 - Phi rs) / 16) ≤ 140 + (2663816 - Phi rs) / 16; omega, by have a := hP.1; have b := hx; show _ + (700000 + (2663816 - Phi rs)) ≤ 700100 + (2663816 - Phi rs); omega⟩ (fun rv d2 lo11 va11 kc11 ns11 hp => ?_)
                obtain ⟨ob, hobk, rfl, hdm, hI11, hN11, hD11, rfl, rfl, hf11⟩ := hp
                show V X D CL A _ _ _ _ _ _ _ (.ref (ob (1000 + n)) :: [])
                rw [← hobk 0 (by omega)]
                have hU2 := tk_U hU hha k x
                have hP11 : (0 + 1 - 1 + (0 + 12)) + Phi rs ≤ Phi rs + 12 ∧ 16 * (0 + 1) + Phi rs ≤ Phi rs + 16 := ⟨by omega, by omega⟩
                refine v_astore_n (lv' := [some (.ref (ob 0)), some (.int k), some (.int x), some (.ref (ob (1000 + n)))]) hX d_P_begin_87 rfl (Nat.le_of_ble_eq_true rfl) rfl ?_
                refine v_iload_n hX d_P_begin_88 rfl rfl ?_
                refine v_bipush (v := 9) hX d_P_begin_89 (by decide) ?_
                refine v_icmp_ne hX d_P_begin_91 (tgt := 121) (by decide) (fun c91 => ?_) (fun c91 => ?_)
                · refine v_iload_n hX d_P_begin_121 rfl rfl ?_
                  refine v_sipush (v := (-1541)) hX d_P_begin_122 (by decide) ?_
                  refine c_S hX (rest := []) hl (c_P_isOneOf2 k (-1541)) ml_P_90 sm_P_isOneOf in_P cd_P_isOneOf rfl q_P_isOneOf ⟨(Nat.le_of_ble_eq_true rfl), (Nat.le_of_ble_eq_true rfl)⟩ rfl rfl rfl (Nat.le_of_ble_eq_true rfl) d_P_begin_125 ⟨by have a := hP11.2; have b := hx; show _ + 0 ≤ 140 + (2663816 - Phi rs) / 16; omega, by have a := hP11.1; have b := hx; show _ + 0 ≤ 700100 + (2663816 - Phi rs); omega⟩ (fun rv d2 lo2 va2 kc ns hp => ?_)
                  obtain ⟨rfl, rfl, rfl, rfl, rfl, rfl⟩ := hp
                  show V X D CL A _ _ _ _ _ _ _ (.int (oneOf k (-1541)) :: [])
                  refine v_if_eq hX d_P_begin_128 (tgt := 136) (by decide) (fun c128 => ?_) (fun c128 => ?_)
                  · refine v_aload_n hX d_P_begin_136 rfl rfl ?_
                    refine v_get hX (1000 + n) (v := .int (nI n)) inT0 (hN11.2 n (Nat.lt_succ_self n)).1 (hN11.2 n (Nat.lt_succ_self n)).2.1 (hN11.2 n (Nat.lt_succ_self n)).2.2.choose_spec.choose_spec.choose_spec.choose_spec rfl 0 (by decide) fl_P_93 rfl rfl d_P_begin_137 ?_
                    exact v_iret hX hE d_P_begin_140 (by have a := hP11.2; have b := hx; show _ ≤ 140 + (2663816 - Phi rs) / 16; omega) (by have a := hP11.1; have b := hx; show _ ≤ 700100 + (2663816 - Phi rs); omega) ⟨⟨c4, c18, c24, c35, c53⟩, rfl, ob, rs, hobk, hdm, hI11, ⟨(by rw [if_neg c91]; have a : (rs 3).1 = (rs 3).1 := rfl; omega), (fun j hj => rfl)⟩, (by unfold bgN; rw [if_pos (Or.inr c76)]; exact hN11), (by rw [if_pos ((hold9 k (ks_of ⟨Int32.not_lt.mp c18, Int32.le_trans (Int32.not_lt.mp c24) (by decide)⟩) (Int32.not_lt.mp c24)).mp c128)]; exact hD11), ⟨by have a := hP11.1; omega, by have a := hP11.2; omega⟩, hf11⟩
                  · refine v_aload_n hX d_P_begin_131 rfl rfl ?_
                    refine v_aload_n hX d_P_begin_132 rfl rfl ?_
                    refine v_desk hX hI11 hN11 hD11 3 (v := .ref (ob (1000 + n))) (ha2 := n) (ch2 := ch) (ts2 := ts) (hp2 := hp) (by decide) fl_P_36 rfl rfl rfl rfl d_P_begin_133 rfl (fun va12 hI12 hN12 hD12 hf12 => ?_)
                    refine v_aload_n hX d_P_begin_136 rfl rfl ?_
                    refine v_get hX (1000 + n) (v := .int (nI n)) inT0 (hN12.2 n (Nat.lt_succ_self n)).1 (hN12.2 n (Nat.lt_succ_self n)).2.1 (hN12.2 n (Nat.lt_succ_self n)).2.2.choose_spec.choose_spec.choose_spec.choose_spec rfl 0 (by decide) fl_P_93 rfl rfl d_P_begin_137 ?_
                    exact v_iret hX hE d_P_begin_140 (by have a := hP11.2; have b := hx; show _ ≤ 140 + (2663816 - Phi rs) / 16; omega) (by have a := hP11.1; have b := hx; show _ ≤ 700100 + (2663816 - Phi rs); omega) ⟨⟨c4, c18, c24, c35, c53⟩, rfl, ob, rs, hobk, hdm, hI12, ⟨(by rw [if_neg c91]; have a : (rs 3).1 = (rs 3).1 := rfl; omega), (fun j hj => rfl)⟩, (by unfold bgN; rw [if_pos (Or.inr c76)]; exact hN12), (by rw [if_neg (fun z => c128 ((hold9 k (ks_of ⟨Int32.not_lt.mp c18, Int32.le_trans (Int32.not_lt.mp c24) (by decide)⟩) (Int32.not_lt.mp c24)).mpr z))]; exact hD12), ⟨by have a := hP11.1; omega, by have a := hP11.2; omega⟩, (hf11.trans hf12)⟩
                · refine v_aload_n hX d_P_begin_94 rfl rfl ?_
                  refine v_get hX 0 (v := .ref (ob 2)) inT4 hD11.1.1 hD11.1.2.1 hD11.1.2.2 rfl 1 (by decide) fl_P_18 rfl rfl d_P_begin_95 ?_
                  refine v_get hX 2 (v := .ref (ob 3)) inT2 hI11.2.2.2.1.1 hI11.2.2.2.1.2.1 hI11.2.2.2.1.2.2 rfl 0 (by decide) fl_P_73 rfl rfl d_P_begin_98 ?_
                  refine v_sipush (v := 256) hX d_P_begin_101 (by decide) ?_
                  refine c_V hX 3 (rest := []) hl (L_add hI11 3 (by decide) 256 (by have a : (rs 3).1 = (rs 3).1 := rfl; have b : mxOf 3 = 4400 := rfl; omega)) ml_P_77 im_R_add se_R_add in_R cd_R_add rfl q_R_add ⟨(Nat.le_of_ble_eq_true rfl), (Nat.le_of_ble_eq_true rfl)⟩ (hI11.1.1 3 (by decide)).1 (hI11.1.1 3 (by decide)).2.2.1 (hI11.1.1 3 (by decide)).2.2.2.1.v rfl rfl rfl rfl (Nat.le_of_ble_eq_true rfl) d_P_begin_104 ⟨by have a := hP11.2; have b := hx; show _ + 20 ≤ 140 + (2663816 - Phi rs) / 16; omega, by have a := hP11.1; have b := hx; show _ + 700000 ≤ 700100 + (2663816 - Phi rs); omega⟩ (fun rv d2 lo13 va13 kc13 ns13 hp => ?_)
                  obtain ⟨rfl, rfl, ⟨rs13, hI13, hs13, ho13, hp13⟩, hf13⟩ := hp
                  show V X D CL A _ _ _ _ _ _ _ []
                  have hP13 : (0 + 12 + ns13) + Phi rs ≤ Phi rs13 + 12 ∧ 16 * (0 + 1 + kc13) + Phi rs ≤ Phi rs13 + 16 := ⟨by have a := hP11.1; have b := hp13.1; omega, by have a := hP11.2; have b := hp13.2; omega⟩
                  have hx13 : Phi rs13 ≤ 2663816 := hI13.1.phi
                  have hN13 := hN11.fr hf13
                  have hD13 := hD11.frL hf13
                  refine v_aload_n hX d_P_begin_107 rfl rfl ?_
                  refine v_aload_n hX d_P_begin_108 rfl rfl ?_
                  refine v_get hX 0 (v := .ref (ob 2)) inT4 hD13.1.1 hD13.1.2.1 hD13.1.2.2 rfl 1 (by decide) fl_P_18 rfl rfl d_P_begin_109 ?_
                  refine v_get hX 2 (v := .ref (ob 3)) inT2 hI13.2.2.2.1.1 hI13.2.2.2.1.2.1 hI13.2.2.2.1.2.2 rfl 0 (by decide) fl_P_73 rfl rfl d_P_begin_112 ?_
                  refine c_V hX 3 (rest := [.ref (ob (1000 + n))]) hl (L_size hI13 3 (by decide)) ml_P_83 im_R_size se_R_size in_R cd_R_size rfl q_R_size ⟨(Nat.le_of_ble_eq_true rfl), (Nat.le_of_ble_eq_true rfl)⟩ (hI13.1.1 3 (by decide)).1 (hI13.1.1 3 (by decide)).2.2.1 (hI13.1.1 3 (by decide)).2.2.2.1.v rfl rfl rfl rfl (Nat.le_of_ble_eq_true rfl) d_P_begin_115 ⟨by have a := hP13.2; have b := hx13; show _ + 100 ≤ 140 + (2663816 - Phi rs) / 16; omega, by have a := hP13.1; have b := hx13; show _ + 200000 ≤ 700100 + (2663816 - Phi rs); omega⟩ (fun rv d3 lo9 va9 kc ns hp => ?_)
                  obtain ⟨rfl, rfl, rfl, rfl, rfl, rfl⟩ := hp
                  show V X D CL A _ _ _ _ _ _ _ (.int (nI (rs13 3).1) :: [.ref (ob (1000 + n))])
                  refine c_V hX (1000 + n) (rest := []) hl (c_N_reachTo hN13 hU2 (Nat.lt_succ_self n) (nI (rs13 3).1)) ml_P_87 im_N_reachTo se_N_reachTo in_N cd_N_reachTo rfl q_N_reachTo ⟨(Nat.le_of_ble_eq_true rfl), (Nat.le_of_ble_eq_true rfl)⟩ (hN13.2 n (Nat.lt_succ_self n)).1 (hN13.2 n (Nat.lt_succ_self n)).2.1 (hN13.2 n (Nat.lt_succ_self n)).2.2.choose_spec.choose_spec.choose_spec.choose_spec rfl rfl rfl rfl (Nat.le_of_ble_eq_true rfl) d_P_begin_118 ⟨by have a := hP13.2; have b := hx13; show _ + 0 ≤ 140 + (2663816 - Phi rs) / 16; omega, by have a := hP13.1; have b := hx13; show _ + 0 ≤ 700100 + (2663816 - Phi rs); omega⟩ (fun rv d3 lo9 va14 kc ns hp => ?_)
                  obtain ⟨rfl, rfl, rfl, rfl, rfl, hN14, hf14⟩ := hp
                  show V X D CL A _ _ _ _ _ _ _ []
                  have hI14 := hI13.frO hf14
                  have hD14 := hD13.frO hf14
                  refine v_iload_n hX d_P_begin_121 rfl rfl ?_
                  refine v_sipush (v := (-1541)) hX d_P_begin_122 (by decide) ?_
                  refine c_S hX (rest := []) hl (c_P_isOneOf2 k (-1541)) ml_P_90 sm_P_isOneOf in_P cd_P_isOneOf rfl q_P_isOneOf ⟨(Nat.le_of_ble_eq_true rfl), (Nat.le_of_ble_eq_true rfl)⟩ rfl rfl rfl (Nat.le_of_ble_eq_true rfl) d_P_begin_125 ⟨by have a := hP13.2; have b := hx13; show _ + 0 ≤ 140 + (2663816 - Phi rs) / 16; omega, by have a := hP13.1; have b := hx13; show _ + 0 ≤ 700100 + (2663816 - Phi rs); omega⟩ (fun rv d2 lo2 va2 kc ns hp => ?_)
                  obtain ⟨rfl, rfl, rfl, rfl, rfl, rfl⟩ := hp
                  show V X D CL A _ _ _ _ _ _ _ (.int (oneOf k (-1541)) :: [])
                  refine v_if_eq hX d_P_begin_128 (tgt := 136) (by decide) (fun c128 => ?_) (fun c128 => ?_)
                  · refine v_aload_n hX d_P_begin_136 rfl rfl ?_
                    refine v_get hX (1000 + n) (v := .int (nI n)) inT0 (hN14.2 n (Nat.lt_succ_self n)).1 (hN14.2 n (Nat.lt_succ_self n)).2.1 (hN14.2 n (Nat.lt_succ_self n)).2.2.choose_spec.choose_spec.choose_spec.choose_spec rfl 0 (by decide) fl_P_93 rfl rfl d_P_begin_137 ?_
                    exact v_iret hX hE d_P_begin_140 (by have a := hP13.2; have b := hx13; show _ ≤ 140 + (2663816 - Phi rs) / 16; omega) (by have a := hP13.1; have b := hx13; show _ ≤ 700100 + (2663816 - Phi rs); omega) ⟨⟨c4, c18, c24, c35, c53⟩, rfl, ob, rs13, hobk, hdm, hI14, ⟨(by rw [if_pos c91]; have a : (rs13 3).1 = ((rs 3).1 + 1) := (eq_add1 hs13 rfl); omega), (fun j hj => ((ho13 j hj).trans rfl))⟩, (by unfold bgN; rw [if_pos (Or.inr c76)]; exact hN14), (by rw [if_pos ((hold9 k (ks_of ⟨Int32.not_lt.mp c18, Int32.le_trans (Int32.not_lt.mp c24) (by decide)⟩) (Int32.not_lt.mp c24)).mp c128)]; exact hD14), ⟨by have a := hP13.1; omega, by have a := hP13.2; omega⟩, ((hf11.trans hf13.toC).trans hf14.toC)⟩
                  · refine v_aload_n hX d_P_begin_131 rfl rfl ?_
                    refine v_aload_n hX d_P_begin_132 rfl rfl ?_
                    refine v_desk hX hI14 hN14 hD14 3 (v := .ref (ob (1000 + n))) (ha2 := n) (ch2 := ch) (ts2 := ts) (hp2 := hp) (by decide) fl_P_36 rfl rfl rfl rfl d_P_begin_133 rfl (fun va15 hI15 hN15 hD15 hf15 => ?_)
                    refine v_aload_n hX d_P_begin_136 rfl rfl ?_
                    refine v_get hX (1000 + n) (v := .int (nI n)) inT0 (hN15.2 n (Nat.lt_succ_self n)).1 (hN15.2 n (Nat.lt_succ_self n)).2.1 (hN15.2 n (Nat.lt_succ_self n)).2.2.choose_spec.choose_spec.choose_spec.choose_spec rfl 0 (by decide) fl_P_93 rfl rfl d_P_begin_137 ?_
                    exact v_iret hX hE d_P_begin_140 (by have a := hP13.2; have b := hx13; show _ ≤ 140 + (2663816 - Phi rs) / 16; omega) (by have a := hP13.1; have b := hx13; show _ ≤ 700100 + (2663816 - Phi rs); omega) ⟨⟨c4, c18, c24, c35, c53⟩, rfl, ob, rs13, hobk, hdm, hI15, ⟨(by rw [if_pos c91]; have a : (rs13 3).1 = ((rs 3).1 + 1) := (eq_add1 hs13 rfl); omega), (fun j hj => ((ho13 j hj).trans rfl))⟩, (by unfold bgN; rw [if_pos (Or.inr c76)]; exact hN15), (by rw [if_neg (fun z => c128 ((hold9 k (ks_of ⟨Int32.not_lt.mp c18, Int32.le_trans (Int32.not_lt.mp c24) (by decide)⟩) (Int32.not_lt.mp c24)).mpr z))]; exact hD15), ⟨by have a := hP13.1; omega, by have a := hP13.2; omega⟩, (((hf11.trans hf13.toC).trans hf14.toC).trans hf15)⟩
          · exact v_throw hX hemp (text := "no such level or number") (names := ["java/lang/RuntimeException", "java/lang/Exception"]) (hthr "java/lang/IllegalArgumentException" dom loc val (0 + 1) (0 + 6) ⟨Or.inl rfl, fun z => z.2.2.2.2 c53, rfl, rfl, rfl, rfl, rfl⟩) (by rw [hl]; exact htr) (by decide) (by decide) cl_P_58 in_IA rfl (by decide) at_iae d_P_begin_56 d_P_begin_59 d_P_begin_60 d_P_begin_62 d_P_begin_65 (Nat.le_of_ble_eq_true rfl) (Nat.le_of_ble_eq_true rfl) (by have a := hP.2; have b := hx; show _ + 1 ≤ 140 + (2663816 - Phi rs) / 16; omega) (by have a := hP.1; have b := hx; show _ + 6 ≤ 700100 + (2663816 - Phi rs); omega) rfl (Nat.le_of_ble_eq_true rfl) (Nat.le_refl _) (Nat.le_refl _)
        · exact v_throw hX hemp (text := "no such kind, or not here") (names := ["java/lang/RuntimeException", "java/lang/Exception"]) (hthr "java/lang/IllegalArgumentException" dom loc val (0 + 1) (0 + 6) ⟨Or.inl rfl, fun z => z.2.2.2.1 c35, rfl, rfl, rfl, rfl, rfl⟩) (by rw [hl]; exact htr) (by decide) (by decide) cl_P_58 in_IA rfl (by decide) at_iae d_P_begin_38 d_P_begin_41 d_P_begin_42 d_P_begin_44 d_P_begin_47 (Nat.le_of_ble_eq_true rfl) (Nat.le_of_ble_eq_true rfl) (by have a := hP.2; have b := hx; show _ + 1 ≤ 140 + (2663816 - Phi rs) / 16; omega) (by have a := hP.1; have b := hx; show _ + 6 ≤ 700100 + (2663816 - Phi rs); omega) rfl (Nat.le_of_ble_eq_true rfl) (Nat.le_refl _) (Nat.le_refl _)
  · exact v_throw hX hemp (text := "no room for one more node here") (names := ["java/lang/RuntimeException", "java/lang/Exception"]) (hthr "java/lang/IllegalStateException" dom loc val (0 + 1) (0 + 6) ⟨Or.inr rfl, fun z => absurd z.1 c4, rfl, rfl, rfl, rfl, rfl⟩) (by rw [hl]; exact htr) (by decide) (by decide) cl_P_47 in_IS rfl (by decide) at_ise d_P_begin_7 d_P_begin_10 d_P_begin_11 d_P_begin_13 d_P_begin_16 (Nat.le_of_ble_eq_true rfl) (Nat.le_of_ble_eq_true rfl) (by have a := hP.2; have b := hx; show _ + 1 ≤ 140 + (2663816 - Phi rs) / 16; omega) (by have a := hP.1; have b := hx; show _ + 6 ≤ 700100 + (2663816 - Phi rs); omega) rfl (Nat.le_of_ble_eq_true rfl) (Nat.le_refl _) (Nat.le_refl _)
