section KPg
variable {cI cB cZ cJ cN : ClassId} {ob : Nat → Nat} {td : Nat} {rs : RS} {sh : Nat → Int32 × Int32 × Int32} {T : TR} {n ha ch ts : Nat} {hp : Int32} {dom : Nat → Prop} {loc : Nat → Nat} {val : Nat → va_E}
/-- word, content, ahead and aheadLater are empty -/
def Z4 (rs : RS) : Prop := (rs 26).1 = 0 ∧ (rs 28).1 = 0 ∧ (rs 22).1 = 0 ∧ (rs 24).1 = 0
theorem LayI.swap (h : LayI cI ob td rs sh dom loc val) (hts : ts = 5 ∨ ts = 30) : LayI cI ob ts rs sh dom loc (va_up val 2 (.inr (2, [.ref (ob 3), .ref (ob ts), .ref (ob 22), .ref (ob 24), .ref (ob 26), .ref (ob 28)]))) := by
  obtain ⟨⟨h1, hn⟩, h2, h3, h4, h5⟩ := h
  refine ⟨⟨fun j hj => ?_, hn⟩, ⟨h2.1, h2.2.1, kup_ne (by omega) h2.2.2⟩, ⟨h3.1, h3.2.1, kup_ne (by omega) h3.2.2⟩, ⟨h4.1, h4.2.1, va_up_self _ _ _⟩, hts⟩
  obtain ⟨g1, g2, g3, g4, g5⟩ := h1 j hj
  have hin := RK_in j hj
  exact ⟨g1, g2, g3, g4.kept (va_up_ne _ _ (by omega)) rfl (va_up_ne _ _ (by omega)), g5⟩
theorem DeskI.oth (h : DeskI cN ob n ha ch ts hp dom loc val) {k : Nat} (hk : 1 < k) (e : va_E) : DeskI cN ob n ha ch ts hp dom loc (va_up val k e) := by
  obtain ⟨⟨a1, a2, a3⟩, b1, b2, f, b3, b4⟩ := h
  exact ⟨⟨a1, a2, kup_ne (by omega) a3⟩, b1, b2, f, kup_ne (by omega) b3, b4⟩
variable {X : KX} {cc : ByteArray} {nL : Nat} {own : String} {R : Room} {D : va_G} {A : Nat → Prop} {cells slots pc : Nat} {lv : List (Option Value)} {st : List Value} {t2 : Nat}
theorem v_draft (hX : OX X cc nL own TT D CL (TY cI cB cZ cJ cN) A R) (hI : LayI cI ob td rs sh dom loc val) (hN : NodesI ob T n dom loc val) (hD : DeskI cN ob n ha ch ts hp dom loc val) (ht2 : t2 = 5 ∨ t2 = 30) {index : Nat} (hl : Cond.fieldLink own index "ProsePages$Setter" "draft" "LProsePages$Sheet;" ∈ TT) (hd : decode cc pc = .ok (.putfield index, 3)) (kk : ∀ va, LayI cI ob t2 rs sh dom loc va → NodesI ob T n dom loc va → DeskI cN ob n ha ch ts hp dom loc va → frC loc val loc va → V X D CL A dom loc va cells slots (pc + 3) lv st) : V X D CL A dom loc val cells slots pc lv (.ref (ob t2) :: .ref (ob 2) :: st) :=
  v_putE hX 2 inT2 tyX2 tyX2_ok nmX2 hI.2.2.2.1.1 hI.2.2.2.1.2.1 hI.2.2.2.1.2.2 rfl 1 (by decide) hl rfl rfl rfl rfl rfl (Nat.le_of_ble_eq_true rfl) hd rfl (kk _ (hI.swap ht2) (hN.oth (by omega) _) (hD.oth (by omega) _) (frC_up (by omega) _))
end KPg
set_option maxHeartbeats 4000000 in
set_option maxRecDepth 100000 in
theorem c_P_pages {l : Launch} {D : va_G} {A : Nat → Prop} {cI cB cZ cJ cN : ClassId} {ob : Nat → Nat} {td : Nat} {rs : RS} {sh : Nat → Int32 × Int32 × Int32} {T : TR} {n ha ch ts : Nat} {hp : Int32} {dom : Nat → Prop} {loc : Nat → Nat} {val : Nat → va_E} (hI : LayI cI ob td rs sh dom loc val) (hN : NodesI ob T n dom loc val) (hD : DeskI cN ob n ha ch ts hp dom loc val) (hU : TreeU T n) (hha : ha < n) (hts : ts = 5 ∨ ts = 30) (hT : TreeI T n) (htl : (rs 3).1 ≤ 4300) (htr : l.stackTraces = false) (r c : Int32) (hz4 : Z4 rs) : kMX l y_P_pages (Cond.code y_P_pages b_P_pages 4 (some FieldType.int) :: TT) (rmQ 60 (Phi rs)) D CL (TY cI cB cZ cJ cN) A [.ref (ob 0), .int r, .int c] dom loc val (fun rv d lo va kc ns => (∃ v, rv = some (.int v)) ∧ dom = d ∧ ∃ (rs2 : RS) (sh2 : Nat → Int32 × Int32 × Int32), LayI cI ob ts rs2 sh2 dom lo va ∧ Z4 rs2 ∧ (rs2 3).1 = (rs 3).1 ∧ NodesI ob T n dom lo va ∧ DeskI cN ob n ha ch td 1 dom lo va ∧ (ns + Phi rs ≤ Phi rs2 + 12 ∧ 16 * kc + Phi rs ≤ Phi rs2 + 16) ∧ frC loc val lo va) (fun E d lo va kc ns => (E = "java/lang/IllegalArgumentException" ∧ dom = d ∧ loc = lo ∧ val = va ∧ kc = 1 ∧ ns = 6) ∨ (E = "java/lang/IllegalStateException" ∧ dom = d ∧ ∃ (rs2 : RS) (sh2 : Nat → Int32 × Int32 × Int32), LayI cI ob td rs2 sh2 dom lo va ∧ Z4 rs2 ∧ (rs2 3).1 = (rs 3).1 ∧ NodesI ob T n dom lo va ∧ DeskI cN ob n ha ch ts hp dom lo va ∧ (ns + Phi rs ≤ Phi rs2 + 18 ∧ 16 * kc + Phi rs ≤ Phi rs2 + 32) ∧ frC loc val lo va)) := by
  refine kMX_of (lv0 := [some (.ref (ob 0)), some (.int r), some (.int c), none]) (own := "ProsePages") (by decide) rfl (List.forall_mem_cons.mpr ⟨rfl, List.forall_mem_cons.mpr ⟨rfl, List.forall_mem_cons.mpr ⟨rfl, fun _ h => nomatch h⟩⟩⟩) (Nat.le_of_ble_eq_true rfl) rfl (Nat.le_of_ble_eq_true rfl) (fun X hl hX hemp hE hthr => ?_)
  have hP : 0 + Phi rs ≤ Phi rs + 12 ∧ 16 * 0 + Phi rs ≤ Phi rs + 16 := ⟨by omega, by omega⟩
  have hx : Phi rs ≤ 2663816 := hI.1.phi
  have hn3 := hN.1
  have hde := (hT.2.2 ha hha).2
  have htd := hI.2.2.2.2
  have h0n : 0 < n := Nat.lt_of_le_of_lt (Nat.zero_le _) hha
  have hd0 := hT.2.2 0 h0n
  refine v_iload_n hX d_P_pages_0 rfl rfl ?_
  refine v_iconst (v := 5) hX d_P_pages_1 (by decide) ?_
  refine v_icmp_lt hX d_P_pages_2 (tgt := 23) (by decide) (fun c2 => ?_) (fun c2 => ?_)
  · exact v_throw hX hemp (text := "no such rows or columns") (names := ["java/lang/RuntimeException", "java/lang/Exception"]) (hthr "java/lang/IllegalArgumentException" dom loc val (0 + 1) (0 + 6) (Or.inl ⟨rfl, rfl, rfl, rfl, rfl, rfl⟩)) (by rw [hl]; exact htr) (by decide) (by decide) cl_P_58 in_IA rfl (by decide) at_iae d_P_pages_23 d_P_pages_26 d_P_pages_27 d_P_pages_29 d_P_pages_32 (Nat.le_of_ble_eq_true rfl) (Nat.le_of_ble_eq_true rfl) (by have a := hP.2; have b := hx; show _ + 1 ≤ 140 + (2663816 - Phi rs) / 16; omega) (by have a := hP.1; have b := hx; show _ + 6 ≤ 700100 + (2663816 - Phi rs); omega) rfl (Nat.le_of_ble_eq_true rfl) (Nat.le_refl _) (Nat.le_refl _)
  · refine v_iload_n hX d_P_pages_5 rfl rfl ?_
    refine v_bipush (v := 40) hX d_P_pages_6 (by decide) ?_
    refine v_icmp_gt hX d_P_pages_8 (tgt := 23) (by decide) (fun c8 => ?_) (fun c8 => ?_)
    · exact v_throw hX hemp (text := "no such rows or columns") (names := ["java/lang/RuntimeException", "java/lang/Exception"]) (hthr "java/lang/IllegalArgumentException" dom loc val (0 + 1) (0 + 6) (Or.inl ⟨rfl, rfl, rfl, rfl, rfl, rfl⟩)) (by rw [hl]; exact htr) (by decide) (by decide) cl_P_58 in_IA rfl (by decide) at_iae d_P_pages_23 d_P_pages_26 d_P_pages_27 d_P_pages_29 d_P_pages_32 (Nat.le_of_ble_eq_true rfl) (Nat.le_of_ble_eq_true rfl) (by have a := hP.2; have b := hx; show _ + 1 ≤ 140 + (2663816 - Phi rs) / 16; omega) (by have a := hP.1; have b := hx; show _ + 6 ≤ 700100 + (2663816 - Phi rs); omega) rfl (Nat.le_of_ble_eq_true rfl) (Nat.le_refl _) (Nat.le_refl _)
    · refine v_iload_n hX d_P_pages_11 rfl rfl ?_
      refine v_bipush (v := 8) hX d_P_pages_12 (by decide) ?_
      refine v_icmp_lt hX d_P_pages_14 (tgt := 23) (by decide) (fun c14 => ?_) (fun c14 => ?_)
      · exact v_throw hX hemp (text := "no such rows or columns") (names := ["java/lang/RuntimeException", "java/lang/Exception"]) (hthr "java/lang/IllegalArgumentException" dom loc val (0 + 1) (0 + 6) (Or.inl ⟨rfl, rfl, rfl, rfl, rfl, rfl⟩)) (by rw [hl]; exact htr) (by decide) (by decide) cl_P_58 in_IA rfl (by decide) at_iae d_P_pages_23 d_P_pages_26 d_P_pages_27 d_P_pages_29 d_P_pages_32 (Nat.le_of_ble_eq_true rfl) (Nat.le_of_ble_eq_true rfl) (by have a := hP.2; have b := hx; show _ + 1 ≤ 140 + (2663816 - Phi rs) / 16; omega) (by have a := hP.1; have b := hx; show _ + 6 ≤ 700100 + (2663816 - Phi rs); omega) rfl (Nat.le_of_ble_eq_true rfl) (Nat.le_refl _) (Nat.le_refl _)
      · refine v_iload_n hX d_P_pages_17 rfl rfl ?_
        refine v_bipush (v := 60) hX d_P_pages_18 (by decide) ?_
        refine v_icmp_le hX d_P_pages_20 (tgt := 33) (by decide) (fun c20 => ?_) (fun c20 => ?_)
        · obtain ⟨cn, hcn1, hcn2, rfl⟩ := col_nat c14 c20
          refine v_aload_n hX d_P_pages_33 rfl rfl ?_
          refine v_get hX 0 (v := .ref (ob 2)) inT4 hD.1.1 hD.1.2.1 hD.1.2.2 rfl 1 (by decide) fl_P_18 rfl rfl d_P_pages_34 ?_
          refine v_get hX 2 (v := .ref (ob td)) inT2 hI.2.2.2.1.1 hI.2.2.2.1.2.1 hI.2.2.2.1.2.2 rfl 1 (by decide) fl_P_128 rfl rfl d_P_pages_37 ?_
          refine v_astore_n (lv' := [some (.ref (ob 0)), some (.int r), some (.int (nI cn)), some (.ref (ob td))]) hX d_P_pages_40 rfl (Nat.le_of_ble_eq_true rfl) rfl ?_
          refine v_aload_n hX d_P_pages_41 rfl rfl ?_
          refine v_iload_n hX d_P_pages_42 rfl rfl ?_
          refine v_iload_n hX d_P_pages_43 rfl rfl ?_
          refine c_V hX td (rest := []) hl (c_T_reset hI htd r (nI cn)) ml_P_131 im_T_reset se_T_reset in_T cd_T_reset rfl q_T_reset ⟨(Nat.le_of_ble_eq_true rfl), (Nat.le_of_ble_eq_true rfl)⟩ (hI.sheet htd).1 (hI.sheet htd).2.1 (hI.sheet htd).2.2 rfl rfl rfl rfl (Nat.le_of_ble_eq_true rfl) d_P_pages_44 ⟨by have a := hP.2; have b := hx; show _ + (120 + (2663816 - Phi rs) / 16) ≤ 140 + (2663816 - Phi rs) / 16; omega, by have a := hP.1; have b := hx; show _ + (700000 + (2663816 - Phi rs)) ≤ 700100 + (2663816 - Phi rs); omega⟩ (fun rv d2 lo1 va1 kc1 ns1 hp => ?_)
          obtain ⟨rfl, rfl, ⟨rs1, sh1, hI1, ⟨z1, z3, z5, z7, z9, z11, z13, z15⟩, ho1, hp1⟩, hf1⟩ := hp
          show V X D CL A _ _ _ _ _ _ _ []
          have hP1 : (0 + ns1) + Phi rs ≤ Phi rs1 + 12 ∧ 16 * (0 + kc1) + Phi rs ≤ Phi rs1 + 16 := ⟨by have a := hP.1; have b := hp1.1; omega, by have a := hP.2; have b := hp1.2; omega⟩
          have hx1 : Phi rs1 ≤ 2663816 := hI1.1.phi
          have hN1 := hN.fr hf1
          have hD1 := hD.frL hf1
          obtain ⟨y26, y28, y22, y24⟩ := hz4
          have hS1 : LayS cI ob td 0 0 0 0 0 0 (rs 3).1 (Phi rs1) dom lo1 va1 := ⟨rs1, sh1, hI1, by rw [ho1 26 (by omega)]; exact y26, by rw [ho1 28 (by omega)]; exact y28, by rw [ho1 22 (by omega)]; exact y22, by rw [ho1 24 (by omega)]; exact y24, ⟨z3, z5, z7, z9, z11, by omega, by rw [z1]; omega⟩, ⟨z13, z15⟩, by rw [ho1 3 (by omega)], rfl⟩
          refine v_aload_n hX d_P_pages_47 rfl rfl ?_
          refine v_get hX 0 (v := .ref (ob 2)) inT4 hD1.1.1 hD1.1.2.1 hD1.1.2.2 rfl 1 (by decide) fl_P_18 rfl rfl d_P_pages_48 ?_
          refine v_aload_n hX d_P_pages_51 rfl rfl ?_
          refine v_get hX 0 (v := .ref (ob (1000 + 0))) inT4 hD1.1.1 hD1.1.2.1 hD1.1.2.2 rfl 2 (by decide) fl_P_32 rfl rfl d_P_pages_52 ?_
          refine v_iload_n hX d_P_pages_55 rfl rfl ?_
          refine c_V hX 2 (rest := []) hl (c_S_layParts hT 12 lo1 va1 0 0 (Phi rs1) cn 0 hS1 hN1 h0n (by omega) (by omega) ⟨by omega, by omega⟩) ml_P_135 im_S_layParts se_S_layParts in_S cd_S_layParts rfl q_S_layParts ⟨(Nat.le_of_ble_eq_true rfl), (Nat.le_of_ble_eq_true rfl)⟩ hI1.2.2.2.1.1 hI1.2.2.2.1.2.1 hI1.2.2.2.1.2.2 rfl rfl rfl rfl (Nat.le_of_ble_eq_true rfl) d_P_pages_56 ⟨by have a := hP1.2; have b := hx1; show _ + (120 + (2663816 - Phi rs1) / 16) ≤ 140 + (2663816 - Phi rs) / 16; omega, by have a := hP1.1; have b := hx1; show _ + (700000 + (2663816 - Phi rs1)) ≤ 700100 + (2663816 - Phi rs); omega⟩ (fun rv d2 lo2 va2 kc2 ns2 hp => ?_)
          obtain ⟨rfl, rfl, ⟨nl2, ph2, ⟨rs2, sh2, hI2, e26, e28, e22, e24, hDC, ⟨e13, e15⟩, e3, ePh⟩, hm2, hp2⟩, hN2, hf2⟩ := hp
          show V X D CL A _ _ _ _ _ _ _ []
          rw [← ePh] at hp2
          have hP2 : (0 + ns1 + ns2) + Phi rs ≤ Phi rs2 + 12 ∧ 16 * (0 + kc1 + kc2) + Phi rs ≤ Phi rs2 + 16 := ⟨by have a := hP1.1; have b := hp2.1; omega, by have a := hP1.2; have b := hp2.2; omega⟩
          have hx2 : Phi rs2 ≤ 2663816 := hI2.1.phi
          have hD2 := hD1.frN hf2
          refine v_aload_n hX d_P_pages_59 rfl rfl ?_
          refine v_get hX td (v := .int (sh2 td).2.2) inT3 (hI2.sheet htd).1 (hI2.sheet htd).2.1 (hI2.sheet htd).2.2 rfl 10 (by decide) fl_P_139 rfl rfl d_P_pages_60 ?_
          refine v_if_eq hX d_P_pages_63 (tgt := 76) (by decide) (fun c63 => ?_) (fun c63 => ?_)
          · refine v_aload_n hX d_P_pages_76 rfl rfl ?_
            refine c_V hX td (rest := []) hl (c_T_fillPages hI2 htd hDC.1 hDC.2.2.2.2.2.1 ⟨e13, e15⟩) ml_P_144 im_T_fillPages se_T_fillPages in_T cd_T_fillPages rfl q_T_fillPages ⟨(Nat.le_of_ble_eq_true rfl), (Nat.le_of_ble_eq_true rfl)⟩ (hI2.sheet htd).1 (hI2.sheet htd).2.1 (hI2.sheet htd).2.2 rfl rfl rfl rfl (Nat.le_of_ble_eq_true rfl) d_P_pages_77 ⟨by have a := hP2.2; have b := hx2; show _ + (120 + (2663816 - Phi rs2) / 16) ≤ 140 + (2663816 - Phi rs) / 16; omega, by have a := hP2.1; have b := hx2; show _ + (700000 + (2663816 - Phi rs2)) ≤ 700100 + (2663816 - Phi rs); omega⟩ (fun rv d2 lo3 va3 kc3 ns3 hp => ?_)
            obtain ⟨rfl, rfl, ⟨rs3, hI3, hk3, hp3⟩, hf3⟩ := hp
            show V X D CL A _ _ _ _ _ _ _ []
            have hP3 : (0 + ns1 + ns2 + ns3) + Phi rs ≤ Phi rs3 + 12 ∧ 16 * (0 + kc1 + kc2 + kc3) + Phi rs ≤ Phi rs3 + 16 := ⟨by have a := hP2.1; have b := hp3.1; omega, by have a := hP2.2; have b := hp3.2; omega⟩
            have hx3 : Phi rs3 ≤ 2663816 := hI3.1.phi
            have hN3 := hN2.fr hf3
            have hD3 := hD2.frL hf3
            refine v_aload_n hX d_P_pages_80 rfl rfl ?_
            refine v_get hX 0 (v := .ref (ob 2)) inT4 hD3.1.1 hD3.1.2.1 hD3.1.2.2 rfl 1 (by decide) fl_P_18 rfl rfl d_P_pages_81 ?_
            refine v_aload_n hX d_P_pages_84 rfl rfl ?_
            refine v_get hX 0 (v := .ref (ob ts)) inT4 hD3.1.1 hD3.1.2.1 hD3.1.2.2 rfl 6 (by decide) fl_P_25 rfl rfl d_P_pages_85 ?_
            refine v_draft hX hI3 hN3 hD3 hts fl_P_128 d_P_pages_88 (fun va4 hI4 hN4 hD4 hf4 => ?_)
            refine v_aload_n hX d_P_pages_91 rfl rfl ?_
            refine v_aload_n hX d_P_pages_92 rfl rfl ?_
            refine v_desk hX hI4 hN4 hD4 6 (v := .ref (ob td)) (ha2 := ha) (ch2 := ch) (ts2 := td) (hp2 := hp) (by decide) fl_P_25 rfl rfl rfl rfl d_P_pages_93 rfl (fun va5 hI5 hN5 hD5 hf5 => ?_)
            refine v_aload_n hX d_P_pages_96 rfl rfl ?_
            refine v_iconst (v := 1) hX d_P_pages_97 (by decide) ?_
            refine v_desk hX hI5 hN5 hD5 7 (v := .int 1) (ha2 := ha) (ch2 := ch) (ts2 := td) (hp2 := 1) (by decide) fl_P_122 rfl rfl (by decide) (by decide) d_P_pages_98 rfl (fun va6 hI6 hN6 hD6 hf6 => ?_)
            refine v_aload_n hX d_P_pages_101 rfl rfl ?_
            refine c_V hX 0 (rest := []) hl (c_P_placeNodes hI6 hN6 hD6 hU hha htd hT) ml_P_147 im_P_placeNodes se_P_placeNodes in_P cd_P_placeNodes rfl q_P_placeNodes ⟨(Nat.le_of_ble_eq_true rfl), (Nat.le_of_ble_eq_true rfl)⟩ hD6.1.1 hD6.1.2.1 hD6.1.2.2 rfl rfl rfl rfl (Nat.le_of_ble_eq_true rfl) d_P_pages_102 ⟨by have a := hP3.2; have b := hx3; show _ + (120 + (2663816 - Phi rs3) / 16) ≤ 140 + (2663816 - Phi rs) / 16; omega, by have a := hP3.1; have b := hx3; show _ + (700000 + (2663816 - Phi rs3)) ≤ 700100 + (2663816 - Phi rs); omega⟩ (fun rv d2 lo9 va7 kc ns hp => ?_)
            obtain ⟨rfl, rfl, rfl, rfl, rfl, hf7, hI7, hN7, hD7⟩ := hp
            show V X D CL A _ _ _ _ _ _ _ []
            refine v_aload_n hX d_P_pages_105 rfl rfl ?_
            refine v_get hX 0 (v := .ref (ob td)) inT4 hD7.1.1 hD7.1.2.1 hD7.1.2.2 rfl 6 (by decide) fl_P_25 rfl rfl d_P_pages_106 ?_
            refine c_V hX td (rest := []) hl (c_T_pageCount hI7 htd) ml_P_150 im_T_pageCount se_T_pageCount in_T cd_T_pageCount rfl q_T_pageCount ⟨(Nat.le_of_ble_eq_true rfl), (Nat.le_of_ble_eq_true rfl)⟩ (hI7.sheet htd).1 (hI7.sheet htd).2.1 (hI7.sheet htd).2.2 rfl rfl rfl rfl (Nat.le_of_ble_eq_true rfl) d_P_pages_109 ⟨by have a := hP3.2; have b := hx3; show _ + (120 + (2663816 - Phi rs3) / 16) ≤ 140 + (2663816 - Phi rs) / 16; omega, by have a := hP3.1; have b := hx3; show _ + (700000 + (2663816 - Phi rs3)) ≤ 700100 + (2663816 - Phi rs); omega⟩ (fun rv d2 lo2 va2 kc ns hp => ?_)
            obtain ⟨rfl, rfl, rfl, rfl, rfl, rfl⟩ := hp
            show V X D CL A _ _ _ _ _ _ _ (.int (nI (rs3 (td + 13)).1) :: [])
            exact v_iret hX hE d_P_pages_112 (by have a := hP3.2; have b := hx3; show _ ≤ 140 + (2663816 - Phi rs) / 16; omega) (by have a := hP3.1; have b := hx3; show _ ≤ 700100 + (2663816 - Phi rs); omega) ⟨⟨_, rfl⟩, rfl, rs3, sh2, hI7, ⟨(hk3 26 (by omega) (by omega)).trans e26, (hk3 28 (by omega) (by omega)).trans e28, (hk3 22 (by omega) (by omega)).trans e22, (hk3 24 (by omega) (by omega)).trans e24⟩, (hk3 3 (by omega) (by omega)).trans e3, hN7, hD7, ⟨by have a := hP3.1; omega, by have a := hP3.2; omega⟩, (((((((frC.rf.trans hf1.toC).trans hf2.toC).trans hf3.toC).trans hf4).trans hf5).trans hf6).trans hf7)⟩
          · exact v_throw hX hemp (text := "too many lines") (names := ["java/lang/RuntimeException", "java/lang/Exception"]) (hthr "java/lang/IllegalStateException" dom lo2 va2 (0 + kc1 + kc2 + 1) (0 + ns1 + ns2 + 6) (Or.inr ⟨rfl, rfl, rs2, sh2, hI2, ⟨e26, e28, e22, e24⟩, e3, hN2, hD2, ⟨by have a := hP2.1; omega, by have a := hP2.2; omega⟩, ((frC.rf.trans hf1.toC).trans hf2.toC)⟩)) (by rw [hl]; exact htr) (by decide) (by decide) cl_P_47 in_IS rfl (by decide) at_ise d_P_pages_66 d_P_pages_69 d_P_pages_70 d_P_pages_72 d_P_pages_75 (Nat.le_of_ble_eq_true rfl) (Nat.le_of_ble_eq_true rfl) (by have a := hP2.2; have b := hx2; show _ + 1 ≤ 140 + (2663816 - Phi rs) / 16; omega) (by have a := hP2.1; have b := hx2; show _ + 6 ≤ 700100 + (2663816 - Phi rs); omega) rfl (Nat.le_of_ble_eq_true rfl) (Nat.le_refl _) (Nat.le_refl _)
        · exact v_throw hX hemp (text := "no such rows or columns") (names := ["java/lang/RuntimeException", "java/lang/Exception"]) (hthr "java/lang/IllegalArgumentException" dom loc val (0 + 1) (0 + 6) (Or.inl ⟨rfl, rfl, rfl, rfl, rfl, rfl⟩)) (by rw [hl]; exact htr) (by decide) (by decide) cl_P_58 in_IA rfl (by decide) at_iae d_P_pages_23 d_P_pages_26 d_P_pages_27 d_P_pages_29 d_P_pages_32 (Nat.le_of_ble_eq_true rfl) (Nat.le_of_ble_eq_true rfl) (by have a := hP.2; have b := hx; show _ + 1 ≤ 140 + (2663816 - Phi rs) / 16; omega) (by have a := hP.1; have b := hx; show _ + 6 ≤ 700100 + (2663816 - Phi rs); omega) rfl (Nat.le_of_ble_eq_true rfl) (Nat.le_refl _) (Nat.le_refl _)
