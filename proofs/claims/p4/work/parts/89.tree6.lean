set_option maxHeartbeats 4000000 in
set_option maxRecDepth 100000 in
theorem t_addNode {l : Launch} {X : KX} {D : va_G} {A : Nat → Prop} {cI cB cZ cJ cN : ClassId} {ob : Nat → Nat} {td ph : Nat} {rs : RS} {sh : Nat → Int32 × Int32 × Int32} {T : TR} {n ha ch ts : Nat} {hp : Int32} {dom : Nat → Prop} {loc : Nat → Nat} {val : Nat → va_E} {Post : kT} {mc ms : Nat} {k v : Int32} (hX : OX X b_P_addNode 4 "ProsePages" TT D CL (TY cI cB cZ cJ cN) A (rmP 2 ph)) (hl : X.2.1 = l) (hE : EX X (some (.object "ProsePages$Node")) D CL A Post mc ms) (hmc : 1 ≤ mc) (hms : 12 ≤ ms) (hI : LayI cI ob td rs sh dom loc val) (hN : NodesI ob T (n + 1) dom loc val) (hD : DeskI cN ob n ha ch ts hp dom loc val) (hU : TreeU T (n + 1)) (hha : ha < n) (hn : n < 300) (hfin : ∀ va, LayI cI ob td rs sh dom loc va → NodesI ob (tkT T ha n) (n + 1) dom loc va → DeskI cN ob (n + 1) ha ch ts hp dom loc va → frC loc val loc va → Post (some (va_rf (some (ob (1000 + n))))) dom loc va 1 12) : V X D CL A dom loc val 1 12 27 [some (.ref (ob 0)), some (.int k), some (.int v), none] [.ref (ob (1000 + n))] := by
  refine v_astore_n (lv' := [some (.ref (ob 0)), some (.int k), some (.int v), some (.ref (ob (1000 + n)))]) hX d_P_addNode_27 rfl (Nat.le_of_ble_eq_true rfl) rfl ?_
  refine v_aload_n hX d_P_addNode_28 rfl rfl ?_
  refine v_get hX 0 (v := .ref (ob (1000 + ha))) inT4 hD.1.1 hD.1.2.1 hD.1.2.2 rfl 3 (by decide) fl_P_36 rfl rfl d_P_addNode_29 ?_
  refine v_aload_n hX d_P_addNode_32 rfl rfl ?_
  refine c_V hX (1000 + ha) (rest := []) hl (c_N_take hN hU (m := n) (Nat.lt_succ_of_lt hha)) ml_P_195 im_N_take se_N_take in_N cd_N_take rfl q_N_take ⟨(Nat.le_of_ble_eq_true rfl), (Nat.le_of_ble_eq_true rfl)⟩ (hN.2 ha (Nat.lt_succ_of_lt hha)).1 (hN.2 ha (Nat.lt_succ_of_lt hha)).2.1 (hN.2 ha (Nat.lt_succ_of_lt hha)).2.2.choose_spec.choose_spec.choose_spec.choose_spec rfl rfl rfl rfl (Nat.le_of_ble_eq_true rfl) d_P_addNode_33 ⟨by show 1 + 0 ≤ 120 + (2663816 - ph) / 16; omega, by show 12 + 0 ≤ 700000 + (2663816 - ph); omega⟩ (fun rv d2 lo2 va1 kc ns hp => ?_)
  obtain ⟨rfl, rfl, rfl, rfl, rfl, hN1, hf1⟩ := hp
  show V X D CL A _ _ _ _ _ _ _ []
  have hI1 := hI.frO hf1
  have hD1 := hD.frO hf1
  refine v_aload_n hX d_P_addNode_36 rfl rfl ?_
  refine v_get hX 0 (v := .int (nI n)) inT4 hD1.1.1 hD1.1.2.1 hD1.1.2.2 rfl 4 (by decide) fl_P_39 rfl rfl d_P_addNode_37 ?_
  refine v_aload_n hX d_P_addNode_40 rfl rfl ?_
  refine v_get hX 0 (v := .ref (ob 1)) inT4 hD1.1.1 hD1.1.2.1 hD1.1.2.2 rfl 0 (by decide) fl_P_11 rfl rfl d_P_addNode_41 ?_
  refine v_nodeAlen hX hD1 d_P_addNode_44 ?_
  refine v_icmp_ge hX d_P_addNode_45 (tgt := 68) (by decide) (fun c => absurd c (fun z => by have z2 : 300 ≤ n := (nI_leI (a := 300) (b := n) (by omega) (by omega)).mp z; omega)) (fun _ => ?_)
  refine v_aload_n hX d_P_addNode_48 rfl rfl ?_
  refine v_get hX 0 (v := .ref (ob 1)) inT4 hD1.1.1 hD1.1.2.1 hD1.1.2.2 rfl 0 (by decide) fl_P_11 rfl rfl d_P_addNode_49 ?_
  refine v_aload_n hX d_P_addNode_52 rfl rfl ?_
  refine v_get hX 0 (v := .int (nI n)) inT4 hD1.1.1 hD1.1.2.1 hD1.1.2.2 rfl 4 (by decide) fl_P_39 rfl rfl d_P_addNode_53 ?_
  refine v_aload_n hX d_P_addNode_56 rfl rfl ?_
  refine v_nodeAst hX hI1 hN1 hD1 d_P_addNode_57 (fun va2 hI2 hN2 hD2 hf2 => ?_)
  refine v_aload_n hX d_P_addNode_58 rfl rfl ?_
  refine v_dup hX d_P_addNode_59 rfl ?_
  refine v_get hX 0 (v := .int (nI n)) inT4 hD2.1.1 hD2.1.2.1 hD2.1.2.2 rfl 4 (by decide) fl_P_39 rfl rfl d_P_addNode_60 ?_
  refine v_iconst (v := 1) hX d_P_addNode_63 (by decide) ?_
  refine v_iaddE (v := nI (n + 1)) hX d_P_addNode_64 (nI_add n 1) ?_
  refine v_deskN hX hI2 hN2 hD2 fl_P_39 d_P_addNode_65 (fun va3 hI3 hN3 hD3 hf3 => ?_)
  refine v_aload_n hX d_P_addNode_68 rfl rfl ?_
  exact v_aret hX hE (some (ob (1000 + n))) d_P_addNode_69 hmc hms (hfin va3 hI3 hN3 hD3 (((frC.rf.trans hf1.toC).trans hf2).trans hf3))
