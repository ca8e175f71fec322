section KSy
/-- a text is begun anew, as the class sees it -/
def anC (T : TR) (ha : Nat) : Prop := tL T ha = none ∨ ∃ j, tL T ha = some j ∧ ¬ tK T j = 10
/-- the class lets characters be told -/
def okS (T : TR) (n ha ch : Nat) (y : Int32) : Prop := ¬ y < 1 ∧ ¬ 4 < y ∧ ¬ mhC (tK T ha) 10 = 0 ∧ ch + y.toNatClampNeg ≤ 4000 ∧ (anC T ha → (if 300 ≤ n then (1 : Int32) else if 12 ≤ tD T ha then 1 else 0) = 0)
theorem sTV_U {T : TR} {n i : Nat} {v : Int32} (h : TreeU T n) : TreeU (sTV T i v) n := h
end KSy
set_option maxHeartbeats 4000000 in
set_option maxRecDepth 100000 in
theorem c_P_say {l : Launch} {D : va_G} {A : Nat → Prop} {cI cB cZ cJ cN : ClassId} {ob : Nat → Nat} {td : Nat} {rs : RS} {sh : Nat → Int32 × Int32 × Int32} {T : TR} {n ha ch ts : Nat} {hp : Int32} {dom : Nat → Prop} {loc : Nat → Nat} {val : Nat → va_E} (hI : LayI cI ob td rs sh dom loc val) (hN : NodesI ob T n dom loc val) (hD : DeskI cN ob n ha ch ts hp dom loc val) (hU : TreeU T n) (hha : ha < n) (hts : ts = 5 ∨ ts = 30) (hT : TreeI T n) (htl : (rs 3).1 ≤ 4300) (htr : l.stackTraces = false) (x0 x1 x2 x3 y : Int32) (hch : ch ≤ 4000) : kMX l y_P_say (Cond.code y_P_say b_P_say 7 (some FieldType.int) :: TT) (rmQ 60 (Phi rs)) D CL (TY cI cB cZ cJ cN) A [.ref (ob 0), .int x0, .int x1, .int x2, .int x3, .int y] dom loc val (fun rv d lo va kc ns => okS T n ha ch y ∧ ∃ nn, (y = nI nn ∧ 1 ≤ nn ∧ nn ≤ 4) ∧ ((anC T ha ∧ rv = some (.int (nI n)) ∧ ∃ (ob2 : Nat → Nat) (rs2 : RS), (∀ j, j ≠ 1000 + n → ob2 j = ob j) ∧ (∀ j, d j ↔ (j = 1000 + n ∨ dom j)) ∧ LayI cI ob2 td rs2 sh d lo va ∧ ((rs2 3).1 = (rs 3).1 + nn ∧ ∀ j, j ≠ 3 → rs2 j = rs j) ∧ NodesI ob2 (sTV (tkT (exT T n ha 10 0) ha n) n (tV (tkT (exT T n ha 10 0) ha n) n + nI nn)) (n + 1) d lo va ∧ DeskI cN ob2 (n + 1) ha (ch + nn) ts hp d lo va ∧ (ns + Phi rs ≤ Phi rs2 + 12 ∧ 16 * kc + Phi rs ≤ Phi rs2 + 16) ∧ frC loc val lo va) ∨ (∃ j, tL T ha = some j ∧ tK T j = 10 ∧ rv = some (.int (nI j)) ∧ dom = d ∧ ∃ (rs2 : RS), LayI cI ob td rs2 sh d lo va ∧ ((rs2 3).1 = (rs 3).1 + nn ∧ ∀ j, j ≠ 3 → rs2 j = rs j) ∧ NodesI ob (sTV T j (tV T j + nI nn)) n d lo va ∧ DeskI cN ob n ha (ch + nn) ts hp d lo va ∧ (ns + Phi rs ≤ Phi rs2 + 12 ∧ 16 * kc + Phi rs ≤ Phi rs2 + 16) ∧ frC loc val lo va))) (fun E d lo va kc ns => (E = "java/lang/IllegalArgumentException" ∨ E = "java/lang/IllegalStateException") ∧ ¬ okS T n ha ch y ∧ dom = d ∧ loc = lo ∧ val = va ∧ kc = 1 ∧ ns = 6) := by
  refine kMX_of (lv0 := [some (.ref (ob 0)), some (.int x0), some (.int x1), some (.int x2), some (.int x3), some (.int y), none]) (own := "ProsePages") (by decide) rfl (List.forall_mem_cons.mpr ⟨rfl, List.forall_mem_cons.mpr ⟨rfl, List.forall_mem_cons.mpr ⟨rfl, List.forall_mem_cons.mpr ⟨rfl, List.forall_mem_cons.mpr ⟨rfl, List.forall_mem_cons.mpr ⟨rfl, fun _ h => nomatch h⟩⟩⟩⟩⟩⟩) (Nat.le_of_ble_eq_true rfl) rfl (Nat.le_of_ble_eq_true rfl) (fun X hl hX hemp hE hthr => ?_)
  have hP : 0 + Phi rs ≤ Phi rs + 12 ∧ 16 * 0 + Phi rs ≤ Phi rs + 16 := ⟨by omega, by omega⟩
  have hx : Phi rs ≤ 2663816 := hI.1.phi
  have hn3 := hN.1
  have hde := (hT.2.2 ha hha).2
  refine v_iload hX d_P_say_0 rfl ?_
  refine v_iconst (v := 1) hX d_P_say_2 (by decide) ?_
  refine v_icmp_lt hX d_P_say_3 (tgt := 24) (by decide) (fun c3 => ?_) (fun c3 => ?_)
  · exact v_throw hX hemp (text := "not 1 to 4 characters, or no text may be here") (names := ["java/lang/RuntimeException", "java/lang/Exception"]) (hthr "java/lang/IllegalArgumentException" dom loc val (0 + 1) (0 + 6) ⟨Or.inl rfl, fun z => z.1 c3, rfl, rfl, rfl, rfl, rfl⟩) (by rw [hl]; exact htr) (by decide) (by decide) cl_P_58 in_IA rfl (by decide) at_iae d_P_say_24 d_P_say_27 d_P_say_28 d_P_say_30 d_P_say_33 (Nat.le_of_ble_eq_true rfl) (Nat.le_of_ble_eq_true rfl) (by have a := hP.2; have b := hx; show _ + 1 ≤ 140 + (2663816 - Phi rs) / 16; omega) (by have a := hP.1; have b := hx; show _ + 6 ≤ 700100 + (2663816 - Phi rs); omega) rfl (Nat.le_of_ble_eq_true rfl) (Nat.le_refl _) (Nat.le_refl _)
  · refine v_iload hX d_P_say_6 rfl ?_
    refine v_iconst (v := 4) hX d_P_say_8 (by decide) ?_
    refine v_icmp_gt hX d_P_say_9 (tgt := 24) (by decide) (fun c9 => ?_) (fun c9 => ?_)
    · exact v_throw hX hemp (text := "not 1 to 4 characters, or no text may be here") (names := ["java/lang/RuntimeException", "java/lang/Exception"]) (hthr "java/lang/IllegalArgumentException" dom loc val (0 + 1) (0 + 6) ⟨Or.inl rfl, fun z => z.2.1 c9, rfl, rfl, rfl, rfl, rfl⟩) (by rw [hl]; exact htr) (by decide) (by decide) cl_P_58 in_IA rfl (by decide) at_iae d_P_say_24 d_P_say_27 d_P_say_28 d_P_say_30 d_P_say_33 (Nat.le_of_ble_eq_true rfl) (Nat.le_of_ble_eq_true rfl) (by have a := hP.2; have b := hx; show _ + 1 ≤ 140 + (2663816 - Phi rs) / 16; omega) (by have a := hP.1; have b := hx; show _ + 6 ≤ 700100 + (2663816 - Phi rs); omega) rfl (Nat.le_of_ble_eq_true rfl) (Nat.le_refl _) (Nat.le_refl _)
    · refine v_aload_n hX d_P_say_12 rfl rfl ?_
      refine v_get hX 0 (v := .ref (ob (1000 + ha))) inT4 hD.1.1 hD.1.2.1 hD.1.2.2 rfl 3 (by decide) fl_P_36 rfl rfl d_P_say_13 ?_
      refine v_bipush (v := 10) hX d_P_say_16 (by decide) ?_
      refine c_V hX (1000 + ha) (rest := []) hl (c_N_mayHold hN hha 10) ml_P_54 im_N_mayHold se_N_mayHold in_N cd_N_mayHold rfl q_N_mayHold ⟨(Nat.le_of_ble_eq_true rfl), (Nat.le_of_ble_eq_true rfl)⟩ (hN.2 ha hha).1 (hN.2 ha hha).2.1 (hN.2 ha hha).2.2.choose_spec.choose_spec.choose_spec.choose_spec rfl rfl rfl rfl (Nat.le_of_ble_eq_true rfl) d_P_say_18 ⟨by have a := hP.2; have b := hx; show _ + 0 ≤ 140 + (2663816 - Phi rs) / 16; omega, by have a := hP.1; have b := hx; show _ + 0 ≤ 700100 + (2663816 - Phi rs); omega⟩ (fun rv d2 lo2 va2 kc ns hp => ?_)
      obtain ⟨rfl, rfl, rfl, rfl, rfl, rfl⟩ := hp
      show V X D CL A _ _ _ _ _ _ _ (.int (mhC (tK T ha) 10) :: [])
      refine v_if_ne hX d_P_say_21 (tgt := 34) (by decide) (fun c21 => ?_) (fun c21 => ?_)
      · obtain ⟨nn, hn1, hn2, rfl⟩ := n_nat c3 c9
        refine v_aload_n hX d_P_say_34 rfl rfl ?_
        refine v_get hX 0 (v := .int (nI ch)) inT4 hD.1.1 hD.1.2.1 hD.1.2.2 rfl 5 (by decide) fl_P_101 rfl rfl d_P_say_35 ?_
        refine v_iload hX d_P_say_38 rfl ?_
        refine v_iaddE (v := nI (ch + nn)) hX d_P_say_40 (nI_add ch nn) ?_
        refine v_sipush (v := 4000) hX d_P_say_41 (by decide) ?_
        refine v_icmp_le hX d_P_say_44 (tgt := 57) (by decide) (fun c44 => ?_) (fun c44 => ?_)
        · have f44 : (ch + nn) ≤ 4000 := (nI_leI (a := (ch + nn)) (b := 4000) (by omega) (by omega)).mp c44
          refine v_aload_n hX d_P_say_57 rfl rfl ?_
          refine v_get hX 0 (v := .ref (ob (1000 + ha))) inT4 hD.1.1 hD.1.2.1 hD.1.2.2 rfl 3 (by decide) fl_P_36 rfl rfl d_P_say_58 ?_
          refine v_get hX (1000 + ha) (v := orf ob (tL T ha)) inT0 (hN.2 ha hha).1 (hN.2 ha hha).2.1 (hN.2 ha hha).2.2.choose_spec.choose_spec.choose_spec.choose_spec rfl 8 (by decide) fl_P_106 rfl rfl d_P_say_61 ?_
          refine v_astoreQ (lv' := [some (.ref (ob 0)), some (.int x0), some (.int x1), some (.int x2), some (.int x3), some (.int (nI nn)), some (orf ob (tL T ha))]) hX ((tL T ha).map (fun i => ob (1000 + i))) d_P_say_64 (Nat.le_of_ble_eq_true rfl) rfl ?_
          refine v_aloadQ hX ((tL T ha).map (fun i => ob (1000 + i))) d_P_say_66 rfl ?_
          rcases hq1 : (tL T ha) with _ | j1
          · refine v_ifnull hX none d_P_say_68 (tgt := 81) (by decide) (fun _ => ?_) (fun _ h => nomatch h)
            refine v_aload_n hX d_P_say_81 rfl rfl ?_
            refine c_V hX 0 (rest := []) hl (c_P_refused hI hN hD hU hha hts hde) ml_P_43 im_P_isNodeRefused se_P_isNodeRefused in_P cd_P_isNodeRefused rfl q_P_isNodeRefused ⟨(Nat.le_of_ble_eq_true rfl), (Nat.le_of_ble_eq_true rfl)⟩ hD.1.1 hD.1.2.1 hD.1.2.2 rfl rfl rfl rfl (Nat.le_of_ble_eq_true rfl) d_P_say_82 ⟨by have a := hP.2; have b := hx; show _ + (120 + (2663816 - Phi rs) / 16) ≤ 140 + (2663816 - Phi rs) / 16; omega, by have a := hP.1; have b := hx; show _ + (700000 + (2663816 - Phi rs)) ≤ 700100 + (2663816 - Phi rs); omega⟩ (fun rv d2 lo2 va2 kc ns hp => ?_)
            obtain ⟨rfl, rfl, rfl, rfl, rfl, rfl⟩ := hp
            show V X D CL A _ _ _ _ _ _ _ (.int (if 300 ≤ n then 1 else if 12 ≤ tD T ha then 1 else 0) :: [])
            refine v_if_eq hX d_P_say_85 (tgt := 98) (by decide) (fun c85 => ?_) (fun c85 => ?_)
            · have hroom := okB_room (T := T) (n := n) (ha := ha) (k := 0) (x := 0) c85
              have hAn : anC T ha := (Or.inl hq1)
              refine v_aload_n hX d_P_say_98 rfl rfl ?_
              refine v_bipush (v := 10) hX d_P_say_99 (by decide) ?_
              refine v_iconst (v := 0) hX d_P_say_101 (by decide) ?_
              have hold0 := 0
              refine c_V hX 0 (rest := []) hl (c_P_addNode hI hN hD hU hha hts hT hroom.1 10 0) ml_P_69 im_P_addNode se_P_addNode in_P cd_P_addNode rfl q_P_addNode ⟨(Nat.le_of_ble_eq_true rfl), (Nat.le_of_ble_eq_true rfl)⟩ hD.1.1 hD.1.2.1 hD.1.2.2 rfl rfl rfl rfl (Nat.le_of_ble_eq_true rfl) d_P_say_102 ⟨by have a := hP.2; have b := hx; show _ + (120 + (2663816 - Phi rs) / 16) ≤ 140 + (2663816 - Phi rs) / 16; omega, by have a := hP.1; have b := hx; show _ + (700000 + (2663816 - Phi rs)) ≤ 700100 + (2663816 - Phi rs); omega⟩ (fun rv d2 lo2 va2 kc2 ns2 hp => ?_)
              obtain ⟨ob, hobk, rfl, hdm, hI2, hN2, hD2, rfl, rfl, hf2⟩ := hp
              show V X D CL A _ _ _ _ _ _ _ (.ref (ob (1000 + n)) :: [])
              rw [← hobk 0 (by omega)]
              have hU2 := tk_U hU hha 10 0
              have hP2 : (0 + 1 - 1 + (0 + 12)) + Phi rs ≤ Phi rs + 12 ∧ 16 * (0 + 1) + Phi rs ≤ Phi rs + 16 := ⟨by omega, by omega⟩
              refine v_astore (lv' := [some (.ref (ob 0)), some (.int x0), some (.int x1), some (.int x2), some (.int x3), some (.int (nI nn)), some (.ref (ob (1000 + n)))]) hX d_P_say_105 (Nat.le_of_ble_eq_true rfl) rfl ?_
              refine v_aload_n hX d_P_say_107 rfl rfl ?_
              refine v_iload_n hX d_P_say_108 rfl rfl ?_
              refine v_iload_n hX d_P_say_109 rfl rfl ?_
              refine v_iload_n hX d_P_say_110 rfl rfl ?_
              refine v_iload hX d_P_say_111 rfl ?_
              refine v_iload hX d_P_say_113 rfl ?_
              refine c_V hX 0 (rest := []) hl (c_P_addChars hI2 hN2 hD2 hU2 (Nat.lt_succ_of_lt hha) hts x0 x1 x2 x3 ⟨hn1, hn2⟩ htl) ml_P_112 im_P_addCharacters se_P_addCharacters in_P cd_P_addCharacters rfl q_P_addCharacters ⟨(Nat.le_of_ble_eq_true rfl), (Nat.le_of_ble_eq_true rfl)⟩ hD2.1.1 hD2.1.2.1 hD2.1.2.2 rfl rfl rfl rfl (Nat.le_of_ble_eq_true rfl) d_P_say_115 ⟨by have a := hP2.2; have b := hx; show _ + (120 + (2663816 - Phi rs) / 16) ≤ 140 + (2663816 - Phi rs) / 16; omega, by have a := hP2.1; have b := hx; show _ + (700000 + (2663816 - Phi rs)) ≤ 700100 + (2663816 - Phi rs); omega⟩ (fun rv d3 lo3 va3 kc3 ns3 hp => ?_)
              obtain ⟨rfl, rfl, hf3, ⟨rs3, hI3, hs3, ho3, hp3⟩, hN3, hD3⟩ := hp
              show V X D CL A _ _ _ _ _ _ _ []
              have hP3 : (0 + 12 + ns3) + Phi rs ≤ Phi rs3 + 12 ∧ 16 * (0 + 1 + kc3) + Phi rs ≤ Phi rs3 + 16 := ⟨by have a := hP2.1; have b := hp3.1; omega, by have a := hP2.2; have b := hp3.2; omega⟩
              have hx3 : Phi rs3 ≤ 2663816 := hI3.1.phi
              refine v_aload hX d_P_say_118 rfl ?_
              refine v_dup hX d_P_say_120 rfl ?_
              refine v_get hX (1000 + n) (v := .int (tV (tkT (exT T n ha 10 0) ha n) n)) inT0 (hN3.2 n (Nat.lt_succ_self n)).1 (hN3.2 n (Nat.lt_succ_self n)).2.1 (hN3.2 n (Nat.lt_succ_self n)).2.2.choose_spec.choose_spec.choose_spec.choose_spec rfl 6 (by decide) fl_P_116 rfl rfl d_P_say_121 ?_
              refine v_iload hX d_P_say_124 rfl ?_
              refine v_iadd hX d_P_say_126 ?_
              refine v_nVal hX hN3 (Nat.lt_succ_self n) (x := ((tV (tkT (exT T n ha 10 0) ha n) n) + (nI nn))) fl_P_116 d_P_say_127 (fun va4 hva4 hN4 hf4 => ?_)
              have hI4 : LayI cI ob td rs3 sh d2 lo3 va4 := by obtain ⟨e9, h9⟩ := hva4; rw [h9]; exact hI3.oth (Or.inr (by omega)) e9
              have hD4 := hD3.frN hf4
              refine v_aload hX d_P_say_130 rfl ?_
              refine v_aload_n hX d_P_say_132 rfl rfl ?_
              refine v_get hX 0 (v := .ref (ob 2)) inT4 hD4.1.1 hD4.1.2.1 hD4.1.2.2 rfl 1 (by decide) fl_P_18 rfl rfl d_P_say_133 ?_
              refine v_get hX 2 (v := .ref (ob 3)) inT2 hI4.2.2.2.1.1 hI4.2.2.2.1.2.1 hI4.2.2.2.1.2.2 rfl 0 (by decide) fl_P_73 rfl rfl d_P_say_136 ?_
              refine c_V hX 3 (rest := [.ref (ob (1000 + n))]) hl (L_size hI4 3 (by decide)) ml_P_83 im_R_size se_R_size in_R cd_R_size rfl q_R_size ⟨(Nat.le_of_ble_eq_true rfl), (Nat.le_of_ble_eq_true rfl)⟩ (hI4.1.1 3 (by decide)).1 (hI4.1.1 3 (by decide)).2.2.1 (hI4.1.1 3 (by decide)).2.2.2.1.v rfl rfl rfl rfl (Nat.le_of_ble_eq_true rfl) d_P_say_139 ⟨by have a := hP3.2; have b := hx3; show _ + 100 ≤ 140 + (2663816 - Phi rs) / 16; omega, by have a := hP3.1; have b := hx3; show _ + 200000 ≤ 700100 + (2663816 - Phi rs); omega⟩ (fun rv d3 lo9 va9 kc ns hp => ?_)
              obtain ⟨rfl, rfl, rfl, rfl, rfl, rfl⟩ := hp
              show V X D CL A _ _ _ _ _ _ _ (.int (nI (rs3 3).1) :: [.ref (ob (1000 + n))])
              refine c_V hX (1000 + n) (rest := []) hl (c_N_reachTo hN4 (sTV_U hU2) (Nat.lt_succ_self n) (nI (rs3 3).1)) ml_P_87 im_N_reachTo se_N_reachTo in_N cd_N_reachTo rfl q_N_reachTo ⟨(Nat.le_of_ble_eq_true rfl), (Nat.le_of_ble_eq_true rfl)⟩ (hN4.2 n (Nat.lt_succ_self n)).1 (hN4.2 n (Nat.lt_succ_self n)).2.1 (hN4.2 n (Nat.lt_succ_self n)).2.2.choose_spec.choose_spec.choose_spec.choose_spec rfl rfl rfl rfl (Nat.le_of_ble_eq_true rfl) d_P_say_142 ⟨by have a := hP3.2; have b := hx3; show _ + 0 ≤ 140 + (2663816 - Phi rs) / 16; omega, by have a := hP3.1; have b := hx3; show _ + 0 ≤ 700100 + (2663816 - Phi rs); omega⟩ (fun rv d3 lo9 va5 kc ns hp => ?_)
              obtain ⟨rfl, rfl, rfl, rfl, rfl, hN5, hf5⟩ := hp
              show V X D CL A _ _ _ _ _ _ _ []
              have hI5 := hI4.frO hf5
              have hD5 := hD4.frO hf5
              refine v_aload hX d_P_say_145 rfl ?_
              refine v_get hX (1000 + n) (v := .int (nI n)) inT0 (hN5.2 n (Nat.lt_succ_self n)).1 (hN5.2 n (Nat.lt_succ_self n)).2.1 (hN5.2 n (Nat.lt_succ_self n)).2.2.choose_spec.choose_spec.choose_spec.choose_spec rfl 0 (by decide) fl_P_93 rfl rfl d_P_say_147 ?_
              exact v_iret hX hE d_P_say_150 (by have a := hP3.2; have b := hx3; show _ ≤ 140 + (2663816 - Phi rs) / 16; omega) (by have a := hP3.1; have b := hx3; show _ ≤ 700100 + (2663816 - Phi rs); omega) ⟨⟨c3, c9, c21, by rw [nI_clamp (by omega)]; omega, fun _ => c85⟩, nn, ⟨rfl, hn1, hn2⟩, Or.inl ⟨hAn, rfl, ob, rs3, hobk, hdm, hI5, ⟨hs3, ho3⟩, hN5, hD5, ⟨by have a := hP3.1; omega, by have a := hP3.2; omega⟩, (((hf2.trans hf3).trans hf4.toC).trans hf5.toC)⟩⟩
            · exact v_throw hX hemp (text := "no room for one more node here") (names := ["java/lang/RuntimeException", "java/lang/Exception"]) (hthr "java/lang/IllegalStateException" dom loc val (0 + 1) (0 + 6) ⟨Or.inr rfl, fun z => c85 (z.2.2.2.2 (Or.inl hq1)), rfl, rfl, rfl, rfl, rfl⟩) (by rw [hl]; exact htr) (by decide) (by decide) cl_P_47 in_IS rfl (by decide) at_ise d_P_say_88 d_P_say_91 d_P_say_92 d_P_say_94 d_P_say_97 (Nat.le_of_ble_eq_true rfl) (Nat.le_of_ble_eq_true rfl) (by have a := hP.2; have b := hx; show _ + 1 ≤ 140 + (2663816 - Phi rs) / 16; omega) (by have a := hP.1; have b := hx; show _ + 6 ≤ 700100 + (2663816 - Phi rs); omega) rfl (Nat.le_of_ble_eq_true rfl) (Nat.le_refl _) (Nat.le_refl _)
          · have ht_j1 : j1 < n := (hU.2 ha j1 hha hq1).2
            refine v_ifnull hX (some (ob (1000 + j1))) d_P_say_68 (tgt := 81) (by decide) (fun h => nomatch h) (fun _ _ => ?_)
            refine v_aload hX d_P_say_71 rfl ?_
            refine v_get hX (1000 + j1) (v := .int (tK T j1)) inT0 (hN.2 j1 ht_j1).1 (hN.2 j1 ht_j1).2.1 (hN.2 j1 ht_j1).2.2.choose_spec.choose_spec.choose_spec.choose_spec rfl 1 (by decide) fl_P_109 rfl rfl d_P_say_73 ?_
            refine v_bipush (v := 10) hX d_P_say_76 (by decide) ?_
            refine v_icmp_eq hX d_P_say_78 (tgt := 107) (by decide) (fun c78 => ?_) (fun c78 => ?_)
            · refine v_aload_n hX d_P_say_107 rfl rfl ?_
              refine v_iload_n hX d_P_say_108 rfl rfl ?_
              refine v_iload_n hX d_P_say_109 rfl rfl ?_
              refine v_iload_n hX d_P_say_110 rfl rfl ?_
              refine v_iload hX d_P_say_111 rfl ?_
              refine v_iload hX d_P_say_113 rfl ?_
              refine c_V hX 0 (rest := []) hl (c_P_addChars hI hN hD hU hha hts x0 x1 x2 x3 ⟨hn1, hn2⟩ htl) ml_P_112 im_P_addCharacters se_P_addCharacters in_P cd_P_addCharacters rfl q_P_addCharacters ⟨(Nat.le_of_ble_eq_true rfl), (Nat.le_of_ble_eq_true rfl)⟩ hD.1.1 hD.1.2.1 hD.1.2.2 rfl rfl rfl rfl (Nat.le_of_ble_eq_true rfl) d_P_say_115 ⟨by have a := hP.2; have b := hx; show _ + (120 + (2663816 - Phi rs) / 16) ≤ 140 + (2663816 - Phi rs) / 16; omega, by have a := hP.1; have b := hx; show _ + (700000 + (2663816 - Phi rs)) ≤ 700100 + (2663816 - Phi rs); omega⟩ (fun rv d3 lo6 va6 kc6 ns6 hp => ?_)
              obtain ⟨rfl, rfl, hf6, ⟨rs6, hI6, hs6, ho6, hp6⟩, hN6, hD6⟩ := hp
              show V X D CL A _ _ _ _ _ _ _ []
              have hP6 : (0 + ns6) + Phi rs ≤ Phi rs6 + 12 ∧ 16 * (0 + kc6) + Phi rs ≤ Phi rs6 + 16 := ⟨by have a := hP.1; have b := hp6.1; omega, by have a := hP.2; have b := hp6.2; omega⟩
              have hx6 : Phi rs6 ≤ 2663816 := hI6.1.phi
              refine v_aload hX d_P_say_118 rfl ?_
              refine v_dup hX d_P_say_120 rfl ?_
              refine v_get hX (1000 + j1) (v := .int (tV T j1)) inT0 (hN6.2 j1 ht_j1).1 (hN6.2 j1 ht_j1).2.1 (hN6.2 j1 ht_j1).2.2.choose_spec.choose_spec.choose_spec.choose_spec rfl 6 (by decide) fl_P_116 rfl rfl d_P_say_121 ?_
              refine v_iload hX d_P_say_124 rfl ?_
              refine v_iadd hX d_P_say_126 ?_
              refine v_nVal hX hN6 ht_j1 (x := ((tV T j1) + (nI nn))) fl_P_116 d_P_say_127 (fun va7 hva7 hN7 hf7 => ?_)
              have hI7 : LayI cI ob td rs6 sh dom lo6 va7 := by obtain ⟨e9, h9⟩ := hva7; rw [h9]; exact hI6.oth (Or.inr (by omega)) e9
              have hD7 := hD6.frN hf7
              refine v_aload hX d_P_say_130 rfl ?_
              refine v_aload_n hX d_P_say_132 rfl rfl ?_
              refine v_get hX 0 (v := .ref (ob 2)) inT4 hD7.1.1 hD7.1.2.1 hD7.1.2.2 rfl 1 (by decide) fl_P_18 rfl rfl d_P_say_133 ?_
              refine v_get hX 2 (v := .ref (ob 3)) inT2 hI7.2.2.2.1.1 hI7.2.2.2.1.2.1 hI7.2.2.2.1.2.2 rfl 0 (by decide) fl_P_73 rfl rfl d_P_say_136 ?_
              refine c_V hX 3 (rest := [.ref (ob (1000 + j1))]) hl (L_size hI7 3 (by decide)) ml_P_83 im_R_size se_R_size in_R cd_R_size rfl q_R_size ⟨(Nat.le_of_ble_eq_true rfl), (Nat.le_of_ble_eq_true rfl)⟩ (hI7.1.1 3 (by decide)).1 (hI7.1.1 3 (by decide)).2.2.1 (hI7.1.1 3 (by decide)).2.2.2.1.v rfl rfl rfl rfl (Nat.le_of_ble_eq_true rfl) d_P_say_139 ⟨by have a := hP6.2; have b := hx6; show _ + 100 ≤ 140 + (2663816 - Phi rs) / 16; omega, by have a := hP6.1; have b := hx6; show _ + 200000 ≤ 700100 + (2663816 - Phi rs); omega⟩ (fun rv d3 lo9 va9 kc ns hp => ?_)
              obtain ⟨rfl, rfl, rfl, rfl, rfl, rfl⟩ := hp
              show V X D CL A _ _ _ _ _ _ _ (.int (nI (rs6 3).1) :: [.ref (ob (1000 + j1))])
              refine c_V hX (1000 + j1) (rest := []) hl (c_N_reachTo hN7 (sTV_U hU) ht_j1 (nI (rs6 3).1)) ml_P_87 im_N_reachTo se_N_reachTo in_N cd_N_reachTo rfl q_N_reachTo ⟨(Nat.le_of_ble_eq_true rfl), (Nat.le_of_ble_eq_true rfl)⟩ (hN7.2 j1 ht_j1).1 (hN7.2 j1 ht_j1).2.1 (hN7.2 j1 ht_j1).2.2.choose_spec.choose_spec.choose_spec.choose_spec rfl rfl rfl rfl (Nat.le_of_ble_eq_true rfl) d_P_say_142 ⟨by have a := hP6.2; have b := hx6; show _ + 0 ≤ 140 + (2663816 - Phi rs) / 16; omega, by have a := hP6.1; have b := hx6; show _ + 0 ≤ 700100 + (2663816 - Phi rs); omega⟩ (fun rv d3 lo9 va8 kc ns hp => ?_)
              obtain ⟨rfl, rfl, rfl, rfl, rfl, hN8, hf8⟩ := hp
              show V X D CL A _ _ _ _ _ _ _ []
              have hI8 := hI7.frO hf8
              have hD8 := hD7.frO hf8
              refine v_aload hX d_P_say_145 rfl ?_
              refine v_get hX (1000 + j1) (v := .int (nI j1)) inT0 (hN8.2 j1 ht_j1).1 (hN8.2 j1 ht_j1).2.1 (hN8.2 j1 ht_j1).2.2.choose_spec.choose_spec.choose_spec.choose_spec rfl 0 (by decide) fl_P_93 rfl rfl d_P_say_147 ?_
              exact v_iret hX hE d_P_say_150 (by have a := hP6.2; have b := hx6; show _ ≤ 140 + (2663816 - Phi rs) / 16; omega) (by have a := hP6.1; have b := hx6; show _ ≤ 700100 + (2663816 - Phi rs); omega) ⟨⟨c3, c9, c21, by rw [nI_clamp (by omega)]; omega, fun z => z.elim (fun z => by rw [hq1] at z; cases z) (fun ⟨j9, z1, z2⟩ => by rw [hq1] at z1; cases z1; exact absurd c78 z2)⟩, nn, ⟨rfl, hn1, hn2⟩, Or.inr ⟨j1, hq1, c78, rfl, rfl, rs6, hI8, ⟨hs6, ho6⟩, hN8, hD8, ⟨by have a := hP6.1; omega, by have a := hP6.2; omega⟩, (((frC.rf.trans hf6).trans hf7.toC).trans hf8.toC)⟩⟩
            · refine v_aload_n hX d_P_say_81 rfl rfl ?_
              refine c_V hX 0 (rest := []) hl (c_P_refused hI hN hD hU hha hts hde) ml_P_43 im_P_isNodeRefused se_P_isNodeRefused in_P cd_P_isNodeRefused rfl q_P_isNodeRefused ⟨(Nat.le_of_ble_eq_true rfl), (Nat.le_of_ble_eq_true rfl)⟩ hD.1.1 hD.1.2.1 hD.1.2.2 rfl rfl rfl rfl (Nat.le_of_ble_eq_true rfl) d_P_say_82 ⟨by have a := hP.2; have b := hx; show _ + (120 + (2663816 - Phi rs) / 16) ≤ 140 + (2663816 - Phi rs) / 16; omega, by have a := hP.1; have b := hx; show _ + (700000 + (2663816 - Phi rs)) ≤ 700100 + (2663816 - Phi rs); omega⟩ (fun rv d2 lo2 va2 kc ns hp => ?_)
              obtain ⟨rfl, rfl, rfl, rfl, rfl, rfl⟩ := hp
              show V X D CL A _ _ _ _ _ _ _ (.int (if 300 ≤ n then 1 else if 12 ≤ tD T ha then 1 else 0) :: [])
              refine v_if_eq hX d_P_say_85 (tgt := 98) (by decide) (fun c85 => ?_) (fun c85 => ?_)
              · have hroom := okB_room (T := T) (n := n) (ha := ha) (k := 0) (x := 0) c85
                have hAn : anC T ha := (Or.inr ⟨j1, hq1, c78⟩)
                refine v_aload_n hX d_P_say_98 rfl rfl ?_
                refine v_bipush (v := 10) hX d_P_say_99 (by decide) ?_
                refine v_iconst (v := 0) hX d_P_say_101 (by decide) ?_
                have hold0 := 0
                refine c_V hX 0 (rest := []) hl (c_P_addNode hI hN hD hU hha hts hT hroom.1 10 0) ml_P_69 im_P_addNode se_P_addNode in_P cd_P_addNode rfl q_P_addNode ⟨(Nat.le_of_ble_eq_true rfl), (Nat.le_of_ble_eq_true rfl)⟩ hD.1.1 hD.1.2.1 hD.1.2.2 rfl rfl rfl rfl (Nat.le_of_ble_eq_true rfl) d_P_say_102 ⟨by have a := hP.2; have b := hx; show _ + (120 + (2663816 - Phi rs) / 16) ≤ 140 + (2663816 - Phi rs) / 16; omega, by have a := hP.1; have b := hx; show _ + (700000 + (2663816 - Phi rs)) ≤ 700100 + (2663816 - Phi rs); omega⟩ (fun rv d2 lo9 va9 kc9 ns9 hp => ?_)
                obtain ⟨ob, hobk, rfl, hdm, hI9, hN9, hD9, rfl, rfl, hf9⟩ := hp
                show V X D CL A _ _ _ _ _ _ _ (.ref (ob (1000 + n)) :: [])
                rw [← hobk 0 (by omega)]
                have hU2 := tk_U hU hha 10 0
                have hP9 : (0 + 1 - 1 + (0 + 12)) + Phi rs ≤ Phi rs + 12 ∧ 16 * (0 + 1) + Phi rs ≤ Phi rs + 16 := ⟨by omega, by omega⟩
                refine v_astore (lv' := [some (.ref (ob 0)), some (.int x0), some (.int x1), some (.int x2), some (.int x3), some (.int (nI nn)), some (.ref (ob (1000 + n)))]) hX d_P_say_105 (Nat.le_of_ble_eq_true rfl) rfl ?_
                refine v_aload_n hX d_P_say_107 rfl rfl ?_
                refine v_iload_n hX d_P_say_108 rfl rfl ?_
                refine v_iload_n hX d_P_say_109 rfl rfl ?_
                refine v_iload_n hX d_P_say_110 rfl rfl ?_
                refine v_iload hX d_P_say_111 rfl ?_
                refine v_iload hX d_P_say_113 rfl ?_
                refine c_V hX 0 (rest := []) hl (c_P_addChars hI9 hN9 hD9 hU2 (Nat.lt_succ_of_lt hha) hts x0 x1 x2 x3 ⟨hn1, hn2⟩ htl) ml_P_112 im_P_addCharacters se_P_addCharacters in_P cd_P_addCharacters rfl q_P_addCharacters ⟨(Nat.le_of_ble_eq_true rfl), (Nat.le_of_ble_eq_true rfl)⟩ hD9.1.1 hD9.1.2.1 hD9.1.2.2 rfl rfl rfl rfl (Nat.le_of_ble_eq_true rfl) d_P_say_115 ⟨by have a := hP9.2; have b := hx; show _ + (120 + (2663816 - Phi rs) / 16) ≤ 140 + (2663816 - Phi rs) / 16; omega, by have a := hP9.1; have b := hx; show _ + (700000 + (2663816 - Phi rs)) ≤ 700100 + (2663816 - Phi rs); omega⟩ (fun rv d3 lo10 va10 kc10 ns10 hp => ?_)
                obtain ⟨rfl, rfl, hf10, ⟨rs10, hI10, hs10, ho10, hp10⟩, hN10, hD10⟩ := hp
                show V X D CL A _ _ _ _ _ _ _ []
                have hP10 : (0 + 12 + ns10) + Phi rs ≤ Phi rs10 + 12 ∧ 16 * (0 + 1 + kc10) + Phi rs ≤ Phi rs10 + 16 := ⟨by have a := hP9.1; have b := hp10.1; omega, by have a := hP9.2; have b := hp10.2; omega⟩
                have hx10 : Phi rs10 ≤ 2663816 := hI10.1.phi
                refine v_aload hX d_P_say_118 rfl ?_
                refine v_dup hX d_P_say_120 rfl ?_
                refine v_get hX (1000 + n) (v := .int (tV (tkT (exT T n ha 10 0) ha n) n)) inT0 (hN10.2 n (Nat.lt_succ_self n)).1 (hN10.2 n (Nat.lt_succ_self n)).2.1 (hN10.2 n (Nat.lt_succ_self n)).2.2.choose_spec.choose_spec.choose_spec.choose_spec rfl 6 (by decide) fl_P_116 rfl rfl d_P_say_121 ?_
                refine v_iload hX d_P_say_124 rfl ?_
                refine v_iadd hX d_P_say_126 ?_
                refine v_nVal hX hN10 (Nat.lt_succ_self n) (x := ((tV (tkT (exT T n ha 10 0) ha n) n) + (nI nn))) fl_P_116 d_P_say_127 (fun va11 hva11 hN11 hf11 => ?_)
                have hI11 : LayI cI ob td rs10 sh d2 lo10 va11 := by obtain ⟨e9, h9⟩ := hva11; rw [h9]; exact hI10.oth (Or.inr (by omega)) e9
                have hD11 := hD10.frN hf11
                refine v_aload hX d_P_say_130 rfl ?_
                refine v_aload_n hX d_P_say_132 rfl rfl ?_
                refine v_get hX 0 (v := .ref (ob 2)) inT4 hD11.1.1 hD11.1.2.1 hD11.1.2.2 rfl 1 (by decide) fl_P_18 rfl rfl d_P_say_133 ?_
                refine v_get hX 2 (v := .ref (ob 3)) inT2 hI11.2.2.2.1.1 hI11.2.2.2.1.2.1 hI11.2.2.2.1.2.2 rfl 0 (by decide) fl_P_73 rfl rfl d_P_say_136 ?_
                refine c_V hX 3 (rest := [.ref (ob (1000 + n))]) hl (L_size hI11 3 (by decide)) ml_P_83 im_R_size se_R_size in_R cd_R_size rfl q_R_size ⟨(Nat.le_of_ble_eq_true rfl), (Nat.le_of_ble_eq_true rfl)⟩ (hI11.1.1 3 (by decide)).1 (hI11.1.1 3 (by decide)).2.2.1 (hI11.1.1 3 (by decide)).2.2.2.1.v rfl rfl rfl rfl (Nat.le_of_ble_eq_true rfl) d_P_say_139 ⟨by have a := hP10.2; have b := hx10; show _ + 100 ≤ 140 + (2663816 - Phi rs) / 16; omega, by have a := hP10.1; have b := hx10; show _ + 200000 ≤ 700100 + (2663816 - Phi rs); omega⟩ (fun rv d3 lo9 va9 kc ns hp => ?_)
                obtain ⟨rfl, rfl, rfl, rfl, rfl, rfl⟩ := hp
                show V X D CL A _ _ _ _ _ _ _ (.int (nI (rs10 3).1) :: [.ref (ob (1000 + n))])
                refine c_V hX (1000 + n) (rest := []) hl (c_N_reachTo hN11 (sTV_U hU2) (Nat.lt_succ_self n) (nI (rs10 3).1)) ml_P_87 im_N_reachTo se_N_reachTo in_N cd_N_reachTo rfl q_N_reachTo ⟨(Nat.le_of_ble_eq_true rfl), (Nat.le_of_ble_eq_true rfl)⟩ (hN11.2 n (Nat.lt_succ_self n)).1 (hN11.2 n (Nat.lt_succ_self n)).2.1 (hN11.2 n (Nat.lt_succ_self n)).2.2.choose_spec.choose_spec.choose_spec.choose_spec rfl rfl rfl rfl (Nat.le_of_ble_eq_true rfl) d_P_say_142 ⟨by have a := hP10.2; have b := hx10; show _ + 0 ≤ 140 + (2663816 - Phi rs) / 16; omega, by have a := hP10.1; have b := hx10; show _ + 0 ≤ 700100 + (2663816 - Phi rs); omega⟩ (fun rv d3 lo9 va12 kc ns hp => ?_)
                obtain ⟨rfl, rfl, rfl, rfl, rfl, hN12, hf12⟩ := hp
                show V X D CL A _ _ _ _ _ _ _ []
                have hI12 := hI11.frO hf12
                have hD12 := hD11.frO hf12
                refine v_aload hX d_P_say_145 rfl ?_
                refine v_get hX (1000 + n) (v := .int (nI n)) inT0 (hN12.2 n (Nat.lt_succ_self n)).1 (hN12.2 n (Nat.lt_succ_self n)).2.1 (hN12.2 n (Nat.lt_succ_self n)).2.2.choose_spec.choose_spec.choose_spec.choose_spec rfl 0 (by decide) fl_P_93 rfl rfl d_P_say_147 ?_
                exact v_iret hX hE d_P_say_150 (by have a := hP10.2; have b := hx10; show _ ≤ 140 + (2663816 - Phi rs) / 16; omega) (by have a := hP10.1; have b := hx10; show _ ≤ 700100 + (2663816 - Phi rs); omega) ⟨⟨c3, c9, c21, by rw [nI_clamp (by omega)]; omega, fun _ => c85⟩, nn, ⟨rfl, hn1, hn2⟩, Or.inl ⟨hAn, rfl, ob, rs10, hobk, hdm, hI12, ⟨hs10, ho10⟩, hN12, hD12, ⟨by have a := hP10.1; omega, by have a := hP10.2; omega⟩, (((hf9.trans hf10).trans hf11.toC).trans hf12.toC)⟩⟩
              · exact v_throw hX hemp (text := "no room for one more node here") (names := ["java/lang/RuntimeException", "java/lang/Exception"]) (hthr "java/lang/IllegalStateException" dom loc val (0 + 1) (0 + 6) ⟨Or.inr rfl, fun z => c85 (z.2.2.2.2 (Or.inr ⟨j1, hq1, c78⟩)), rfl, rfl, rfl, rfl, rfl⟩) (by rw [hl]; exact htr) (by decide) (by decide) cl_P_47 in_IS rfl (by decide) at_ise d_P_say_88 d_P_say_91 d_P_say_92 d_P_say_94 d_P_say_97 (Nat.le_of_ble_eq_true rfl) (Nat.le_of_ble_eq_true rfl) (by have a := hP.2; have b := hx; show _ + 1 ≤ 140 + (2663816 - Phi rs) / 16; omega) (by have a := hP.1; have b := hx; show _ + 6 ≤ 700100 + (2663816 - Phi rs); omega) rfl (Nat.le_of_ble_eq_true rfl) (Nat.le_refl _) (Nat.le_refl _)
        · have f44 : ¬ (ch + nn) ≤ 4000 := fun z => c44 ((nI_leI (a := (ch + nn)) (b := 4000) (by omega) (by omega)).mpr z)
          exact v_throw hX hemp (text := "too many characters") (names := ["java/lang/RuntimeException", "java/lang/Exception"]) (hthr "java/lang/IllegalStateException" dom loc val (0 + 1) (0 + 6) ⟨Or.inr rfl, fun z => (by have q1 := z.2.2.2.1; rw [nI_clamp (by omega)] at q1; omega), rfl, rfl, rfl, rfl, rfl⟩) (by rw [hl]; exact htr) (by decide) (by decide) cl_P_47 in_IS rfl (by decide) at_ise d_P_say_47 d_P_say_50 d_P_say_51 d_P_say_53 d_P_say_56 (Nat.le_of_ble_eq_true rfl) (Nat.le_of_ble_eq_true rfl) (by have a := hP.2; have b := hx; show _ + 1 ≤ 140 + (2663816 - Phi rs) / 16; omega) (by have a := hP.1; have b := hx; show _ + 6 ≤ 700100 + (2663816 - Phi rs); omega) rfl (Nat.le_of_ble_eq_true rfl) (Nat.le_refl _) (Nat.le_refl _)
      · exact v_throw hX hemp (text := "not 1 to 4 characters, or no text may be here") (names := ["java/lang/RuntimeException", "java/lang/Exception"]) (hthr "java/lang/IllegalArgumentException" dom loc val (0 + 1) (0 + 6) ⟨Or.inl rfl, fun z => z.2.2.1 c21, rfl, rfl, rfl, rfl, rfl⟩) (by rw [hl]; exact htr) (by decide) (by decide) cl_P_58 in_IA rfl (by decide) at_iae d_P_say_24 d_P_say_27 d_P_say_28 d_P_say_30 d_P_say_33 (Nat.le_of_ble_eq_true rfl) (Nat.le_of_ble_eq_true rfl) (by have a := hP.2; have b := hx; show _ + 1 ≤ 140 + (2663816 - Phi rs) / 16; omega) (by have a := hP.1; have b := hx; show _ + 6 ≤ 700100 + (2663816 - Phi rs); omega) rfl (Nat.le_of_ble_eq_true rfl) (Nat.le_refl _) (Nat.le_refl _)
