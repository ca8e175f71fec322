set_option maxHeartbeats 4000000 in
set_option maxRecDepth 100000 in
theorem c_M_signLength {l : Launch} {D : va_G} {A : Nat → Prop} {cI cB cZ cJ cN : ClassId} {dom : Nat → Prop} {loc : Nat → Nat} {val : Nat → va_E} (x : Int32) : kM l y_M_signLength (Cond.code y_M_signLength b_M_signLength 3 (some FieldType.int) :: TT) (rmM 1) D CL (TY cI cB cZ cJ cN) A [.int x] dom loc val (fun rv d lo va kc ns => rv = some (.int (nI (sl x))) ∧ dom = d ∧ loc = lo ∧ val = va ∧ kc = 0 ∧ ns = 0) := by
  refine kM_of (lv0 := [some (.int x), none, none]) (own := "ProsePagesModel") (by decide) rfl (List.forall_mem_cons.mpr ⟨rfl, fun _ h => nomatch h⟩) (Nat.le_of_ble_eq_true rfl) rfl (Nat.le_of_ble_eq_true rfl) (fun X hl hX hE hin0 => ?_)
  refine v_iload_n hX d_M_signLength_0 rfl rfl ?_
  refine v_if_ge hX d_M_signLength_1 (tgt := 6) (by decide) (fun c1 => ?_) (fun c1 => ?_)
  · refine v_iconst (v := 3) hX d_M_signLength_6 (by decide) ?_
    refine v_istore_n (lv' := [some (.int x), some (.int 3), none]) hX d_M_signLength_7 rfl (Nat.le_of_ble_eq_true rfl) rfl ?_
    refine v_iload_n hX d_M_signLength_8 rfl rfl ?_
    refine v_istore_n (lv' := [some (.int x), some (.int 3), some (.int x)]) hX d_M_signLength_9 rfl (Nat.le_of_ble_eq_true rfl) rfl ?_
    have loop : ∀ (m9 k : Nat) (v : Int32) (n : Nat), k < m9 → 0 ≤ v.toInt → v.toInt < 10 ^ (k + 1) → n + lgF k v = sl x → V X D CL A dom loc val 0 0 10 [some (.int x), some (.int (nI n)), some (.int v)] [] := by
      intro m9
      induction m9 with
      | zero => intro k v n hk; exact absurd hk (Nat.not_lt_zero _)
      | succ m9 ih =>
        intro k v n hk h0 h1 h2
        refine v_iload_n hX d_M_signLength_10 rfl rfl ?_
        refine v_bipush (v := 9) hX d_M_signLength_11 (by decide) ?_
        refine v_icmp_le hX d_M_signLength_13 (tgt := 27) (by decide) (fun c13 => ?_) (fun c13 => ?_)
        · refine v_iload_n hX d_M_signLength_27 rfl rfl ?_
          exact v_iret hX hE d_M_signLength_28 (Nat.le_of_ble_eq_true rfl) (Nat.le_of_ble_eq_true rfl) ⟨congrArg (fun z => some (Value.int (nI z))) (show n = sl x by rw [← h2]; cases k with | zero => rfl | succ k => (show n = n + (if 9 < v then lgF k (v / 10) + 1 else 0); rw [if_neg (Int32.not_lt.mpr c13)]; rfl)), rfl, rfl, rfl, rfl, rfl⟩
        · have c9 : 9 < v := Int32.not_le.mp c13
          have c9i : 9 < v.toInt := Int32.lt_iff_toInt_lt.mp c9
          obtain ⟨k, rfl⟩ : ∃ k2, k = k2 + 1 := ⟨k - 1, by have hne : k ≠ 0 := (fun z => by rw [z] at h1; simp at h1; omega); omega⟩
          obtain ⟨v2, hv2⟩ : ∃ v2, v2 = v / 10 := ⟨_, rfl⟩
          obtain ⟨n2, hn2⟩ : ∃ n2, n2 = n + 1 := ⟨_, rfl⟩
          have hd10 := i32_div10 h0
          have hq2 : 0 ≤ v2.toInt := by rw [hv2, hd10]; omega
          have hq3 : v2.toInt < 10 ^ (k + 1) := by rw [hv2, hd10]; rw [Int.pow_succ] at h1; omega
          have hq4 : n2 + lgF k v2 = sl x := by rw [← h2, hn2, hv2]; show n + 1 + lgF k (v / 10) = n + (if 9 < v then lgF k (v / 10) + 1 else 0); rw [if_pos c9]; omega
          refine v_iinc (y := (nI (n + 1))) (lv' := [some (.int x), some (.int (nI (n + 1))), some (.int v)]) hX d_M_signLength_16 rfl (nI_1 n) rfl ?_
          refine v_iload_n hX d_M_signLength_19 rfl rfl ?_
          refine v_bipush (v := 10) hX d_M_signLength_20 (by decide) ?_
          refine v_idiv hX d_M_signLength_22 (by decide) ?_
          refine v_istore_n (lv' := [some (.int x), some (.int (nI (n + 1))), some (.int (v / 10))]) hX d_M_signLength_23 rfl (Nat.le_of_ble_eq_true rfl) rfl ?_
          rw [← hv2, ← hn2]
          refine v_goto hX d_M_signLength_24 (tgt := 10) (by decide) ?_
          exact ih k v2 n2 (by omega) hq2 hq3 hq4
    exact loop 11 10 x 3 (by omega) (by have a := Int32.le_iff_toInt_le.mp c1; exact a) (by have a := Int32.toInt_lt x; omega) (by unfold sl; rw [if_neg (Int32.not_lt.mpr c1)])
  · refine v_iconst (v := 2) hX d_M_signLength_4 (by decide) ?_
    exact v_iret hX hE d_M_signLength_5 (Nat.le_of_ble_eq_true rfl) (Nat.le_of_ble_eq_true rfl) ⟨congrArg (fun z => some (Value.int (nI z))) (show 2 = sl x by unfold sl; rw [if_pos (Int32.not_le.mp c1)]), rfl, rfl, rfl, rfl, rfl⟩
set_option maxHeartbeats 4000000 in
set_option maxRecDepth 100000 in
theorem c_M_show {l : Launch} {D : va_G} {A : Nat → Prop} {cI cB cZ cJ cN : ClassId} {ob : Nat → Nat} {C : CT} {T : TS} {O : OS} {dom : Nat → Prop} {loc : Nat → Nat} {val : Nat → va_E} (hM : ModI cI cB cZ ob C T O dom loc val) (hO : OI O) (x : Int32) (hs : ooSm O < 4300) : kM l y_M_show (Cond.code y_M_show b_M_show 2 none :: TT) (rmM 1) D CL (TY cI cB cZ cJ cN) A [.ref (ob 48), .int x] dom loc val (PMo cI cB cZ ob T O dom loc val (fun rv C2 O2 => rv = none ∧ C = C2 ∧ ooSm O2 = ooSm O + 1)) := by
  refine kM_of (lv0 := [some (.ref (ob 48)), some (.int x)]) (own := "ProsePagesModel") (by decide) rfl (List.forall_mem_cons.mpr ⟨rfl, List.forall_mem_cons.mpr ⟨rfl, fun _ h => nomatch h⟩⟩) (Nat.le_of_ble_eq_true rfl) rfl (Nat.le_of_ble_eq_true rfl) (fun X hl hX hE hin0 => ?_)
  refine v_aload_n hX d_M_show_0 rfl rfl ?_
  refine v_mget hX hM 37 (v := .ref (ob 75)) (by decide) fl_M_91 rfl rfl d_M_show_1 ?_
  refine v_aload_n hX d_M_show_4 rfl rfl ?_
  refine v_mget hX hM 40 (v := .int (nI (ooSm O))) (by decide) fl_M_145 rfl gf_shownMany d_M_show_5 ?_
  refine v_iload_n hX d_M_show_8 rfl rfl ?_
  refine v_mist hX hM 26 C T (soSh O (upd (ooSh O) (ooSm O) x)) (i := (ooSm O)) (by decide) ga_shown (by omega) (by decide) qf_shown qa_shown d_M_show_9 (fun va1 hM1 hf1 => ?_)
  refine v_aload_n hX d_M_show_10 rfl rfl ?_
  refine v_dup hX d_M_show_11 rfl ?_
  refine v_mget hX hM1 40 (v := .int (nI (ooSm O))) (by decide) fl_M_145 rfl ((nf_shown 40).trans gf_shownMany) d_M_show_12 ?_
  refine v_iconst (v := 1) hX d_M_show_15 (by decide) ?_
  refine v_iaddE (v := nI ((ooSm O) + 1)) hX d_M_show_16 (nI_add (ooSm O) 1) ?_
  refine v_mput hX hM1 40 C T (soSm (soSh O (upd (ooSh O) (ooSm O) x)) ((ooSm O) + 1)) (by decide) fl_M_145 rfl rfl rfl rfl pf_shownMany pa_shownMany d_M_show_17 (fun va2 hM2 hf2 => ?_)
  exact v_vret hX hE d_M_show_20 (Nat.le_of_ble_eq_true rfl) (Nat.le_of_ble_eq_true rfl) ⟨rfl, rfl, rfl, rfl, C, (soSm (soSh O (upd (ooSh O) (ooSm O) x)) ((ooSm O) + 1)), ⟨rfl, rfl, rfl⟩, hM2, ⟨⟨hO.1, hO.2.1, hO.2.2.1, hO.2.2.2.1, (by have q9 := hO.2.2.2.2; first | omega | (show ((ooSm O) + 1) ≤ 4300; omega))⟩, rfl⟩, ((frM.rf.trans hf1).trans hf2)⟩
