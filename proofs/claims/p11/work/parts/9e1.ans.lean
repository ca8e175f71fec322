/-- what node answers of a node with kind K, holder U and number W -/
def ndV (q K U W : Int32) : Int32 := if q = 0 then K else if q = 1 then U else if q = 2 then W else -1
theorem ndV_0 {K U W : Int32} : ndV 0 K U W = K := if_pos rfl
theorem ndV_1 {K U W : Int32} : ndV 1 K U W = U := (if_neg (by decide)).trans (if_pos rfl)
theorem ndV_2 {K U W : Int32} : ndV 2 K U W = W := (if_neg (by decide)).trans ((if_neg (by decide)).trans (if_pos rfl))
theorem ndV_out {q K U W : Int32} (h : q.toInt < 0 ∨ 2 < q.toInt) : -1 = ndV q K U W := by
  have a0 : ¬ q = 0 := fun z => by rw [z] at h; revert h; decide
  have a1 : ¬ q = 1 := fun z => by rw [z] at h; revert h; decide
  have a2 : ¬ q = 2 := fun z => by rw [z] at h; revert h; decide
  exact ((if_neg a0).trans ((if_neg a1).trans (if_neg a2))).symm
theorem nI_pos9 {j : Nat} (h : j < 2000) : (0 : Int32) ≤ nI j := Int32.le_iff_toInt_le.mpr (by rw [nI_toInt (by omega)]; show (0 : Int) ≤ _; omega)
def NdA (n : Nat) (K U W : Nat → Int32) (k q v : Int32) : Prop := (¬ (0 ≤ k ∧ k < nI n) ∧ v = -1) ∨ ∃ j, k = nI j ∧ j < n ∧ v = ndV q (K j) (U j) (W j)
theorem NdA.eq {n : Nat} {K U W K2 U2 W2 : Nat → Int32} {k q v v2 : Int32} (hn : n ≤ 300) (h : NdA n K U W k q v) (h2 : NdA n K2 U2 W2 k q v2) (he : ∀ i, i < n → K i = K2 i ∧ U i = U2 i ∧ W i = W2 i) : v = v2 := by
  rcases h with ⟨a, rfl⟩ | ⟨j, rfl, hj, rfl⟩
  · rcases h2 with ⟨-, rfl⟩ | ⟨j, rfl, hj, rfl⟩
    · rfl
    · exact absurd ⟨nI_pos9 (by omega), (nI_ltI (by omega) (by omega)).mpr hj⟩ a
  · rcases h2 with ⟨a, rfl⟩ | ⟨j2, e, hj2, rfl⟩
    · exact absurd ⟨nI_pos9 (by omega), (nI_ltI (by omega) (by omega)).mpr hj⟩ a
    · have e2 : j = j2 := by have q := congrArg Int32.toNatClampNeg e; rwa [nI_clamp (by omega), nI_clamp (by omega)] at q
      subst e2
      obtain ⟨x1, x2, x3⟩ := he j hj
      rw [x1, x2, x3]
abbrev mdK (T : TS) : Nat → Int32 := fun i => if ttK T i = 11 then -1 else ttK T i
abbrev mdW (T : TS) : Nat → Int32 := fun i => if ttK T i = 10 then nI (ttMa T i) else ttNu T i
abbrev tdU (T : TR) : Nat → Int32 := fun i => match tU T i with | none => -1 | some j => nI j
set_option maxHeartbeats 4000000 in
set_option maxRecDepth 100000 in
theorem c_M_node2 {l : Launch} {D : va_G} {A : Nat → Prop} {cI cB cZ cJ cN : ClassId} {ob : Nat → Nat} {C : CT} {T : TS} {O : OS} {dom : Nat → Prop} {loc : Nat → Nat} {val : Nat → va_E} (hM : ModI cI cB cZ ob C T O dom loc val) (hO : OI O) (k q : Int32) (hT : TrI T) : kM l y_M_node (Cond.code y_M_node b_M_node 3 (some FieldType.int) :: TT) (rmM 1) D CL (TY cI cB cZ cJ cN) A [.ref (ob 48), .int k, .int q] dom loc val (PMo cI cB cZ ob T O dom loc val (fun rv C2 O2 => (∃ v, rv = some (.int v) ∧ NdA (ttN T) (mdK T) (ttU T) (mdW T) k q v) ∧ C = C2)) := by
  refine kM_of (lv0 := [some (.ref (ob 48)), some (.int k), some (.int q)]) (own := "ProsePagesModel") (by decide) rfl (List.forall_mem_cons.mpr ⟨rfl, List.forall_mem_cons.mpr ⟨rfl, List.forall_mem_cons.mpr ⟨rfl, fun _ h => nomatch h⟩⟩⟩) (Nat.le_of_ble_eq_true rfl) rfl (Nat.le_of_ble_eq_true rfl) (fun X hl hX hE hin0 => ?_)
  have hTn := hT.1
  refine v_aload_n hX d_M_node_0 rfl rfl ?_
  refine v_iconst (v := 0) hX d_M_node_1 (by decide) ?_
  refine v_mput hX hM 0 C T (soTh O 0) (by decide) fl_M_97 rfl rfl rfl rfl pf_thrown pa_thrown d_M_node_2 (fun va1 hM1 hf1 => ?_)
  refine v_iload_n hX d_M_node_5 rfl rfl ?_
  refine v_if_lt hX d_M_node_6 (tgt := 17) (by decide) (fun c6 => ?_) (fun c6 => ?_)
  · refine v_iconst (v := (-1)) hX d_M_node_17 (by decide) ?_
    exact v_iret hX hE d_M_node_18 (Nat.le_of_ble_eq_true rfl) (Nat.le_of_ble_eq_true rfl) ⟨rfl, rfl, rfl, rfl, C, (soTh O 0), ⟨⟨_, rfl, Or.inl ⟨fun z => absurd c6 (Int32.not_lt.mpr z.1), rfl⟩⟩, rfl⟩, hM1, ⟨⟨hO.1, hO.2.1, hO.2.2.1, hO.2.2.2.1, (by have q9 := hO.2.2.2.2; first | exact q9 | omega | (show (ooSm O) ≤ 4300; omega))⟩, rfl⟩, (frM.rf.trans hf1)⟩
  · refine v_iload_n hX d_M_node_9 rfl rfl ?_
    refine v_aload_n hX d_M_node_10 rfl rfl ?_
    refine v_mget hX hM1 9 (v := .int (nI (ttN T))) (by decide) fl_M_101 rfl ((nf_thrown 9 (by decide)).trans gf_nodes) d_M_node_11 ?_
    refine v_icmp_lt hX d_M_node_14 (tgt := 19) (by decide) (fun c14 => ?_) (fun c14 => ?_)
    · obtain ⟨kn, hkn, rfl⟩ := nI_of c6
      have hkk : kn < ttN T := (nI_ltI (by omega) (by omega)).mp c14
      refine v_iload_n hX d_M_node_19 rfl rfl ?_
      by_cases hw : (q).toInt < 0 ∨ 2 < (q).toInt
      · refine v_tableOut hX d_M_node_20 (tgt := 104) hw (by decide) ?_
        refine v_iconst (v := (-1)) hX d_M_node_104 (by decide) ?_
        exact v_iret hX hE d_M_node_105 (Nat.le_of_ble_eq_true rfl) (Nat.le_of_ble_eq_true rfl) ⟨rfl, rfl, rfl, rfl, C, (soTh O 0), ⟨⟨_, rfl, Or.inr ⟨kn, rfl, hkk, ndV_out hw⟩⟩, rfl⟩, hM1, ⟨⟨hO.1, hO.2.1, hO.2.2.1, hO.2.2.2.1, (by have q9 := hO.2.2.2.2; first | exact q9 | omega | (show (ooSm O) ≤ 4300; omega))⟩, rfl⟩, (frM.rf.trans hf1)⟩
      · have hk9 : (q).toInt = 0 ∨ (q).toInt = 1 ∨ (q).toInt = 2 := by omega
        rcases hk9 with hk9 | hk9 | hk9
        · refine v_tableIn hX d_M_node_20 (tgt := 48) (by omega) (by omega) (off := 28) (by rw [hk9]; rfl) (by decide) ?_
          have hv9 : q = 0 := i32_lit hk9 0 (by decide)
          refine v_aload_n hX d_M_node_48 rfl rfl ?_
          refine v_mget hX hM1 1 (v := .ref (ob 49)) (by decide) fl_M_7 rfl rfl d_M_node_49 ?_
          refine v_iload_n hX d_M_node_52 rfl rfl ?_
          refine v_mild hX hM1 0 (i := kn) (v := ((ttK T) kn)) ((na_thrown 0).trans ga_kind) (by omega) (by decide) rfl d_M_node_53 ?_
          refine v_bipush (v := 11) hX d_M_node_54 (by decide) ?_
          refine v_icmp_ne hX d_M_node_56 (tgt := 63) (by decide) (fun c56 => ?_) (fun c56 => ?_)
          · refine v_aload_n hX d_M_node_63 rfl rfl ?_
            refine v_mget hX hM1 1 (v := .ref (ob 49)) (by decide) fl_M_7 rfl rfl d_M_node_64 ?_
            refine v_iload_n hX d_M_node_67 rfl rfl ?_
            refine v_mild hX hM1 0 (i := kn) (v := ((ttK T) kn)) ((na_thrown 0).trans ga_kind) (by omega) (by decide) rfl d_M_node_68 ?_
            exact v_iret hX hE d_M_node_69 (Nat.le_of_ble_eq_true rfl) (Nat.le_of_ble_eq_true rfl) ⟨rfl, rfl, rfl, rfl, C, (soTh O 0), ⟨⟨_, rfl, Or.inr ⟨kn, rfl, hkk, by rw [hv9]; exact (ndV_0.trans (if_neg c56)).symm⟩⟩, rfl⟩, hM1, ⟨⟨hO.1, hO.2.1, hO.2.2.1, hO.2.2.2.1, (by have q9 := hO.2.2.2.2; first | exact q9 | omega | (show (ooSm O) ≤ 4300; omega))⟩, rfl⟩, (frM.rf.trans hf1)⟩
          · refine v_iconst (v := (-1)) hX d_M_node_59 (by decide) ?_
            refine v_goto hX d_M_node_60 (tgt := 69) (by decide) ?_
            exact v_iret hX hE d_M_node_69 (Nat.le_of_ble_eq_true rfl) (Nat.le_of_ble_eq_true rfl) ⟨rfl, rfl, rfl, rfl, C, (soTh O 0), ⟨⟨_, rfl, Or.inr ⟨kn, rfl, hkk, by rw [hv9]; exact (ndV_0.trans (if_pos c56)).symm⟩⟩, rfl⟩, hM1, ⟨⟨hO.1, hO.2.1, hO.2.2.1, hO.2.2.2.1, (by have q9 := hO.2.2.2.2; first | exact q9 | omega | (show (ooSm O) ≤ 4300; omega))⟩, rfl⟩, (frM.rf.trans hf1)⟩
        · refine v_tableIn hX d_M_node_20 (tgt := 70) (by omega) (by omega) (off := 50) (by rw [hk9]; rfl) (by decide) ?_
          have hv9 : q = 1 := i32_lit hk9 1 (by decide)
          refine v_aload_n hX d_M_node_70 rfl rfl ?_
          refine v_mget hX hM1 2 (v := .ref (ob 50)) (by decide) fl_M_13 rfl rfl d_M_node_71 ?_
          refine v_iload_n hX d_M_node_74 rfl rfl ?_
          refine v_mild hX hM1 1 (i := kn) (v := ((ttU T) kn)) ((na_thrown 1).trans ga_up) (by omega) (by decide) rfl d_M_node_75 ?_
          exact v_iret hX hE d_M_node_76 (Nat.le_of_ble_eq_true rfl) (Nat.le_of_ble_eq_true rfl) ⟨rfl, rfl, rfl, rfl, C, (soTh O 0), ⟨⟨_, rfl, Or.inr ⟨kn, rfl, hkk, by rw [hv9]; exact ndV_1.symm⟩⟩, rfl⟩, hM1, ⟨⟨hO.1, hO.2.1, hO.2.2.1, hO.2.2.2.1, (by have q9 := hO.2.2.2.2; first | exact q9 | omega | (show (ooSm O) ≤ 4300; omega))⟩, rfl⟩, (frM.rf.trans hf1)⟩
        · refine v_tableIn hX d_M_node_20 (tgt := 77) (by omega) (by omega) (off := 57) (by rw [hk9]; rfl) (by decide) ?_
          have hv9 : q = 2 := i32_lit hk9 2 (by decide)
          refine v_aload_n hX d_M_node_77 rfl rfl ?_
          refine v_mget hX hM1 1 (v := .ref (ob 49)) (by decide) fl_M_7 rfl rfl d_M_node_78 ?_
          refine v_iload_n hX d_M_node_81 rfl rfl ?_
          refine v_mild hX hM1 0 (i := kn) (v := ((ttK T) kn)) ((na_thrown 0).trans ga_kind) (by omega) (by decide) rfl d_M_node_82 ?_
          refine v_bipush (v := 10) hX d_M_node_83 (by decide) ?_
          refine v_icmp_ne hX d_M_node_85 (tgt := 97) (by decide) (fun c85 => ?_) (fun c85 => ?_)
          · refine v_aload_n hX d_M_node_97 rfl rfl ?_
            refine v_mget hX hM1 3 (v := .ref (ob 51)) (by decide) fl_M_16 rfl rfl d_M_node_98 ?_
            refine v_iload_n hX d_M_node_101 rfl rfl ?_
            refine v_mild hX hM1 2 (i := kn) (v := ((ttNu T) kn)) ((na_thrown 2).trans ga_number) (by omega) (by decide) rfl d_M_node_102 ?_
            exact v_iret hX hE d_M_node_103 (Nat.le_of_ble_eq_true rfl) (Nat.le_of_ble_eq_true rfl) ⟨rfl, rfl, rfl, rfl, C, (soTh O 0), ⟨⟨_, rfl, Or.inr ⟨kn, rfl, hkk, by rw [hv9]; exact (ndV_2.trans (if_neg c85)).symm⟩⟩, rfl⟩, hM1, ⟨⟨hO.1, hO.2.1, hO.2.2.1, hO.2.2.2.1, (by have q9 := hO.2.2.2.2; first | exact q9 | omega | (show (ooSm O) ≤ 4300; omega))⟩, rfl⟩, (frM.rf.trans hf1)⟩
          · refine v_aload_n hX d_M_node_88 rfl rfl ?_
            refine v_mget hX hM1 6 (v := .ref (ob 54)) (by decide) fl_M_25 rfl rfl d_M_node_89 ?_
            refine v_iload_n hX d_M_node_92 rfl rfl ?_
            refine v_mild hX hM1 5 (i := kn) (v := (nI ((ttMa T) kn))) ((na_thrown 5).trans ga_many) (by omega) (by decide) rfl d_M_node_93 ?_
            refine v_goto hX d_M_node_94 (tgt := 103) (by decide) ?_
            exact v_iret hX hE d_M_node_103 (Nat.le_of_ble_eq_true rfl) (Nat.le_of_ble_eq_true rfl) ⟨rfl, rfl, rfl, rfl, C, (soTh O 0), ⟨⟨_, rfl, Or.inr ⟨kn, rfl, hkk, by rw [hv9]; exact (ndV_2.trans (if_pos c85)).symm⟩⟩, rfl⟩, hM1, ⟨⟨hO.1, hO.2.1, hO.2.2.1, hO.2.2.2.1, (by have q9 := hO.2.2.2.2; first | exact q9 | omega | (show (ooSm O) ≤ 4300; omega))⟩, rfl⟩, (frM.rf.trans hf1)⟩
    · refine v_iconst (v := (-1)) hX d_M_node_17 (by decide) ?_
      exact v_iret hX hE d_M_node_18 (Nat.le_of_ble_eq_true rfl) (Nat.le_of_ble_eq_true rfl) ⟨rfl, rfl, rfl, rfl, C, (soTh O 0), ⟨⟨_, rfl, Or.inl ⟨fun z => c14 z.2, rfl⟩⟩, rfl⟩, hM1, ⟨⟨hO.1, hO.2.1, hO.2.2.1, hO.2.2.2.1, (by have q9 := hO.2.2.2.2; first | exact q9 | omega | (show (ooSm O) ≤ 4300; omega))⟩, rfl⟩, (frM.rf.trans hf1)⟩
set_option maxHeartbeats 4000000 in
set_option maxRecDepth 100000 in
theorem c_P_nodeAt2 {l : Launch} {D : va_G} {A : Nat → Prop} {cI cB cZ cJ cN : ClassId} {ob : Nat → Nat} {td : Nat} {rs : RS} {sh : Nat → Int32 × Int32 × Int32} {T : TR} {n ha ch ts : Nat} {hp : Int32} {dom : Nat → Prop} {loc : Nat → Nat} {val : Nat → va_E} (hI : LayI cI ob td rs sh dom loc val) (hN : NodesI ob T n dom loc val) (hD : DeskI cN ob n ha ch ts hp dom loc val) (hU : TreeU T n) (hha : ha < n) (hts : ts = 5 ∨ ts = 30) (x : Int32) : kM l y_P_nodeAt (Cond.code y_P_nodeAt b_P_nodeAt 2 (some (FieldType.object "ProsePages$Node")) :: TT) (rmP 1 (Phi rs)) D CL (TY cI cB cZ cJ cN) A [.ref (ob 0), .int x] dom loc val (fun rv d lo va kc ns => (∃ o : Option Nat, (∀ j, o = some j → j < n ∧ x = nI j) ∧ (o = none → ¬ (0 ≤ x ∧ x < nI n)) ∧ rv = some (orf ob o)) ∧ dom = d ∧ loc = lo ∧ val = va ∧ kc = 0 ∧ ns = 0) := by
  refine kM_of (lv0 := [some (.ref (ob 0)), some (.int x)]) (own := "ProsePages") (by decide) rfl (List.forall_mem_cons.mpr ⟨rfl, List.forall_mem_cons.mpr ⟨rfl, fun _ h => nomatch h⟩⟩) (Nat.le_of_ble_eq_true rfl) rfl (Nat.le_of_ble_eq_true rfl) (fun X hl hX hE hin0 => ?_)
  have hP : pay rs rs 0 0 := pay.rf
  have hx : Phi rs ≤ 2663816 := hI.1.phi
  have hn3 := hN.1
  refine v_iload_n hX d_P_nodeAt_0 rfl rfl ?_
  refine v_if_lt hX d_P_nodeAt_1 (tgt := 30) (by decide) (fun c1 => ?_) (fun c1 => ?_)
  · refine v_null hX d_P_nodeAt_30 ?_
    exact v_aret hX hE none d_P_nodeAt_31 (by have a := hP.2; have b := hx; show _ ≤ 120 + (2663816 - Phi rs) / 16; omega) (by have a := hP.1; have b := hx; show _ ≤ 700000 + (2663816 - Phi rs); omega) ⟨⟨none, (fun _ h => nomatch h), (fun _ z => absurd c1 (Int32.not_lt.mpr z.1)), rfl⟩, rfl, rfl, rfl, rfl, rfl⟩
  · refine v_iload_n hX d_P_nodeAt_4 rfl rfl ?_
    refine v_aload_n hX d_P_nodeAt_5 rfl rfl ?_
    refine v_get hX 0 (v := .int (nI n)) inT4 hD.1.1 hD.1.2.1 hD.1.2.2 rfl 4 (by decide) fl_P_39 rfl rfl d_P_nodeAt_6 ?_
    refine v_icmp_ge hX d_P_nodeAt_9 (tgt := 30) (by decide) (fun c9 => ?_) (fun c9 => ?_)
    · refine v_null hX d_P_nodeAt_30 ?_
      exact v_aret hX hE none d_P_nodeAt_31 (by have a := hP.2; have b := hx; show _ ≤ 120 + (2663816 - Phi rs) / 16; omega) (by have a := hP.1; have b := hx; show _ ≤ 700000 + (2663816 - Phi rs); omega) ⟨⟨none, (fun _ h => nomatch h), (fun _ z => absurd z.2 (Int32.not_lt.mpr c9)), rfl⟩, rfl, rfl, rfl, rfl, rfl⟩
    · obtain ⟨kn, hkn, rfl⟩ := nI_of c1
      have hkk : kn < n := by have q : ¬ n ≤ kn := (fun z => c9 ((nI_leI (a := n) (b := kn) (by omega) (by omega)).mpr z)); omega
      refine v_iload_n hX d_P_nodeAt_12 rfl rfl ?_
      refine v_aload_n hX d_P_nodeAt_13 rfl rfl ?_
      refine v_get hX 0 (v := .ref (ob 1)) inT4 hD.1.1 hD.1.2.1 hD.1.2.2 rfl 0 (by decide) fl_P_11 rfl rfl d_P_nodeAt_14 ?_
      refine v_nodeAlen hX hD d_P_nodeAt_17 ?_
      refine v_icmp_ge hX d_P_nodeAt_18 (tgt := 30) (by decide) (fun c18 => ?_) (fun c18 => ?_)
      · have f18 : 300 ≤ kn := (nI_leI (a := 300) (b := kn) (by omega) (by omega)).mp c18
        refine v_null hX d_P_nodeAt_30 ?_
        exact v_aret hX hE none d_P_nodeAt_31 (by have a := hP.2; have b := hx; show _ ≤ 120 + (2663816 - Phi rs) / 16; omega) (by have a := hP.1; have b := hx; show _ ≤ 700000 + (2663816 - Phi rs); omega) ⟨⟨none, (fun _ h => nomatch h), (fun _ => absurd f18 (by omega)), rfl⟩, rfl, rfl, rfl, rfl, rfl⟩
      · have f18 : ¬ 300 ≤ kn := fun z => c18 ((nI_leI (a := 300) (b := kn) (by omega) (by omega)).mpr z)
        refine v_aload_n hX d_P_nodeAt_21 rfl rfl ?_
        refine v_get hX 0 (v := .ref (ob 1)) inT4 hD.1.1 hD.1.2.1 hD.1.2.2 rfl 0 (by decide) fl_P_11 rfl rfl d_P_nodeAt_22 ?_
        refine v_iload_n hX d_P_nodeAt_25 rfl rfl ?_
        refine v_nodeAld hX hD (i := kn) (by omega) (by omega) d_P_nodeAt_26 ?_
        refine v_goto hX d_P_nodeAt_27 (tgt := 31) (by decide) ?_
        exact v_aret hX hE (some (ob (1000 + kn))) d_P_nodeAt_31 (by have a := hP.2; have b := hx; show _ ≤ 120 + (2663816 - Phi rs) / 16; omega) (by have a := hP.1; have b := hx; show _ ≤ 700000 + (2663816 - Phi rs); omega) ⟨⟨some kn, (fun j h => by cases h; exact ⟨hkk, rfl⟩), (fun h => nomatch h), rfl⟩, rfl, rfl, rfl, rfl, rfl⟩
set_option maxHeartbeats 4000000 in
set_option maxRecDepth 100000 in
theorem c_P_node2 {l : Launch} {D : va_G} {A : Nat → Prop} {cI cB cZ cJ cN : ClassId} {ob : Nat → Nat} {td : Nat} {rs : RS} {sh : Nat → Int32 × Int32 × Int32} {T : TR} {n ha ch ts : Nat} {hp : Int32} {dom : Nat → Prop} {loc : Nat → Nat} {val : Nat → va_E} (hI : LayI cI ob td rs sh dom loc val) (hN : NodesI ob T n dom loc val) (hD : DeskI cN ob n ha ch ts hp dom loc val) (hU : TreeU T n) (hha : ha < n) (hts : ts = 5 ∨ ts = 30) (x y : Int32) : kM l y_P_node (Cond.code y_P_node b_P_node 4 (some FieldType.int) :: TT) (rmP 3 (Phi rs)) D CL (TY cI cB cZ cJ cN) A [.ref (ob 0), .int x, .int y] dom loc val (fun rv d lo va kc ns => (∃ v, rv = some (.int v) ∧ NdA n (tK T) (tdU T) (tV T) x y v) ∧ dom = d ∧ loc = lo ∧ val = va ∧ kc = 0 ∧ ns = 0) := by
  refine kM_of (lv0 := [some (.ref (ob 0)), some (.int x), some (.int y), none]) (own := "ProsePages") (by decide) rfl (List.forall_mem_cons.mpr ⟨rfl, List.forall_mem_cons.mpr ⟨rfl, List.forall_mem_cons.mpr ⟨rfl, fun _ h => nomatch h⟩⟩⟩) (Nat.le_of_ble_eq_true rfl) rfl (Nat.le_of_ble_eq_true rfl) (fun X hl hX hE hin0 => ?_)
  have hP : pay rs rs 0 0 := pay.rf
  have hx : Phi rs ≤ 2663816 := hI.1.phi
  have hn3 := hN.1
  refine v_aload_n hX d_P_node_0 rfl rfl ?_
  refine v_iload_n hX d_P_node_1 rfl rfl ?_
  refine c_V hX 0 (rest := []) hl (c_P_nodeAt2 hI hN hD hU hha hts x) ml_P_179 im_P_nodeAt se_P_nodeAt in_P cd_P_nodeAt rfl q_P_nodeAt ⟨(Nat.le_of_ble_eq_true rfl), (Nat.le_of_ble_eq_true rfl)⟩ hD.1.1 hD.1.2.1 hD.1.2.2 rfl rfl rfl rfl (Nat.le_of_ble_eq_true rfl) d_P_node_2 ⟨by have a := hP.2; have b := hx; show _ + (120 + (2663816 - Phi rs) / 16) ≤ 120 + (2663816 - Phi rs) / 16; omega, by have a := hP.1; have b := hx; show _ + (700000 + (2663816 - Phi rs)) ≤ 700000 + (2663816 - Phi rs); omega⟩ (fun rv d2 lo2 va2 kc ns hp => ?_)
  obtain ⟨⟨on1, ho1, ho2, rfl⟩, rfl, rfl, rfl, rfl, rfl⟩ := hp
  show V X D CL A _ _ _ _ _ _ _ (orf ob on1 :: [])
  refine v_astore_nQ (lv' := [some (.ref (ob 0)), some (.int x), some (.int y), some (orf ob on1)]) hX (on1.map (fun i => ob (1000 + i))) d_P_node_5 rfl (Nat.le_of_ble_eq_true rfl) rfl ?_
  refine v_aload_nQ hX (on1.map (fun i => ob (1000 + i))) d_P_node_6 rfl rfl ?_
  rcases hq2 : on1 with _ | j2
  · refine v_ifnonnull hX none d_P_node_7 (tgt := 12) (by decide) (fun _ h => nomatch h) (fun _ => ?_)
    refine v_iconst (v := (-1)) hX d_P_node_10 (by decide) ?_
    exact v_iret hX hE d_P_node_11 (by have a := hP.2; have b := hx; show _ ≤ 120 + (2663816 - Phi rs) / 16; omega) (by have a := hP.1; have b := hx; show _ ≤ 700000 + (2663816 - Phi rs); omega) ⟨⟨_, rfl, Or.inl ⟨ho2 hq2, rfl⟩⟩, rfl, rfl, rfl, rfl, rfl⟩
  · obtain ⟨ht_j2, hx2⟩ := ho1 j2 hq2
    refine v_ifnonnull hX (some (ob (1000 + j2))) d_P_node_7 (tgt := 12) (by decide) (fun _ _ => ?_) (fun h => nomatch h)
    refine v_iload_n hX d_P_node_12 rfl rfl ?_
    by_cases hw : (y).toInt < 0 ∨ 2 < (y).toInt
    · refine v_tableOut hX d_P_node_13 (tgt := 69) hw (by decide) ?_
      refine v_iconst (v := (-1)) hX d_P_node_69 (by decide) ?_
      exact v_iret hX hE d_P_node_70 (by have a := hP.2; have b := hx; show _ ≤ 120 + (2663816 - Phi rs) / 16; omega) (by have a := hP.1; have b := hx; show _ ≤ 700000 + (2663816 - Phi rs); omega) ⟨⟨_, rfl, Or.inr ⟨j2, hx2, ht_j2, ndV_out hw⟩⟩, rfl, rfl, rfl, rfl, rfl⟩
    · have hk9 : (y).toInt = 0 ∨ (y).toInt = 1 ∨ (y).toInt = 2 := by omega
      rcases hk9 with hk9 | hk9 | hk9
      · refine v_tableIn hX d_P_node_13 (tgt := 40) (by omega) (by omega) (off := 27) (by rw [hk9]; rfl) (by decide) ?_
        refine v_aload_n hX d_P_node_40 rfl rfl ?_
        refine v_get hX (1000 + j2) (v := .int (tK T j2)) inT0 (hN.2 j2 ht_j2).1 (hN.2 j2 ht_j2).2.1 (hN.2 j2 ht_j2).2.2.choose_spec.choose_spec.choose_spec.choose_spec rfl 1 (by decide) fl_P_109 rfl rfl d_P_node_41 ?_
        exact v_iret hX hE d_P_node_44 (by have a := hP.2; have b := hx; show _ ≤ 120 + (2663816 - Phi rs) / 16; omega) (by have a := hP.1; have b := hx; show _ ≤ 700000 + (2663816 - Phi rs); omega) ⟨⟨_, rfl, Or.inr ⟨j2, hx2, ht_j2, by rw [i32_lit hk9 0 (by decide)]; exact ndV_0.symm⟩⟩, rfl, rfl, rfl, rfl, rfl⟩
      · refine v_tableIn hX d_P_node_13 (tgt := 45) (by omega) (by omega) (off := 32) (by rw [hk9]; rfl) (by decide) ?_
        refine v_aload_n hX d_P_node_45 rfl rfl ?_
        refine v_get hX (1000 + j2) (v := orf ob (tU T j2)) inT0 (hN.2 j2 ht_j2).1 (hN.2 j2 ht_j2).2.1 (hN.2 j2 ht_j2).2.2.choose_spec.choose_spec.choose_spec.choose_spec rfl 2 (by decide) fl_P_96 rfl rfl d_P_node_46 ?_
        rcases hq3 : (tU T j2) with _ | j3
        · refine v_ifnonnull hX none d_P_node_49 (tgt := 56) (by decide) (fun _ h => nomatch h) (fun _ => ?_)
          refine v_iconst (v := (-1)) hX d_P_node_52 (by decide) ?_
          refine v_goto hX d_P_node_53 (tgt := 63) (by decide) ?_
          exact v_iret hX hE d_P_node_63 (by have a := hP.2; have b := hx; show _ ≤ 120 + (2663816 - Phi rs) / 16; omega) (by have a := hP.1; have b := hx; show _ ≤ 700000 + (2663816 - Phi rs); omega) ⟨⟨_, rfl, Or.inr ⟨j2, hx2, ht_j2, by rw [i32_lit hk9 1 (by decide)]; refine Eq.trans ?_ ndV_1.symm; show _ = (match tU T j2 with | none => -1 | some j => nI j); rw [hq3]⟩⟩, rfl, rfl, rfl, rfl, rfl⟩
        · have ht_j3 : j3 < n := Nat.lt_trans (hU.1 j2 j3 ht_j2 hq3) ht_j2
          refine v_ifnonnull hX (some (ob (1000 + j3))) d_P_node_49 (tgt := 56) (by decide) (fun _ _ => ?_) (fun h => nomatch h)
          refine v_aload_n hX d_P_node_56 rfl rfl ?_
          refine v_get hX (1000 + j2) (v := .ref (ob (1000 + j3))) inT0 (hN.2 j2 ht_j2).1 (hN.2 j2 ht_j2).2.1 (hN.2 j2 ht_j2).2.2.choose_spec.choose_spec.choose_spec.choose_spec rfl 2 (by decide) fl_P_96 rfl (by show some (orf ob (tU T j2)) = _; rw [hq3]; rfl) d_P_node_57 ?_
          refine v_get hX (1000 + j3) (v := .int (nI j3)) inT0 (hN.2 j3 ht_j3).1 (hN.2 j3 ht_j3).2.1 (hN.2 j3 ht_j3).2.2.choose_spec.choose_spec.choose_spec.choose_spec rfl 0 (by decide) fl_P_93 rfl rfl d_P_node_60 ?_
          exact v_iret hX hE d_P_node_63 (by have a := hP.2; have b := hx; show _ ≤ 120 + (2663816 - Phi rs) / 16; omega) (by have a := hP.1; have b := hx; show _ ≤ 700000 + (2663816 - Phi rs); omega) ⟨⟨_, rfl, Or.inr ⟨j2, hx2, ht_j2, by rw [i32_lit hk9 1 (by decide)]; refine Eq.trans ?_ ndV_1.symm; show _ = (match tU T j2 with | none => -1 | some j => nI j); rw [hq3]⟩⟩, rfl, rfl, rfl, rfl, rfl⟩
      · refine v_tableIn hX d_P_node_13 (tgt := 64) (by omega) (by omega) (off := 51) (by rw [hk9]; rfl) (by decide) ?_
        refine v_aload_n hX d_P_node_64 rfl rfl ?_
        refine v_get hX (1000 + j2) (v := .int (tV T j2)) inT0 (hN.2 j2 ht_j2).1 (hN.2 j2 ht_j2).2.1 (hN.2 j2 ht_j2).2.2.choose_spec.choose_spec.choose_spec.choose_spec rfl 6 (by decide) fl_P_116 rfl rfl d_P_node_65 ?_
        exact v_iret hX hE d_P_node_68 (by have a := hP.2; have b := hx; show _ ≤ 120 + (2663816 - Phi rs) / 16; omega) (by have a := hP.1; have b := hx; show _ ≤ 700000 + (2663816 - Phi rs); omega) ⟨⟨_, rfl, Or.inr ⟨j2, hx2, ht_j2, by rw [i32_lit hk9 2 (by decide)]; exact ndV_2.symm⟩⟩, rfl, rfl, rfl, rfl, rfl⟩
/-- the values of the class are the reference's -/
def RelV (T : TR) (M : TS) (n : Nat) : Prop := ∀ i, i < n → tV T i = mdW M i
