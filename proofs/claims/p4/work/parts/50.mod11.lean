theorem c_M_isBlock {l : Launch} {D : va_G} {A : Nat → Prop} {cI cB cZ cJ cN : ClassId} {dom : Nat → Prop} {loc : Nat → Nat} {val : Nat → va_E} (x : Int32) : kM l y_M_isBlock (Cond.code y_M_isBlock b_M_isBlock 1 (some FieldType.boolean) :: TT) (rmM 1) D CL (TY cI cB cZ cJ cN) A [.int x] dom loc val (fun rv d lo va kc ns => rv = some (.int (isB x)) ∧ dom = d ∧ loc = lo ∧ val = va ∧ kc = 0 ∧ ns = 0) := by
  refine kM_of (lv0 := [some (.int x)]) (own := "ProsePagesModel") (by decide) rfl (List.forall_mem_cons.mpr ⟨rfl, fun _ h => nomatch h⟩) (Nat.le_of_ble_eq_true rfl) rfl (Nat.le_of_ble_eq_true rfl) (fun X hl hX hE hin0 => ?_)
  refine v_iload_n hX d_M_isBlock_0 rfl rfl ?_
  refine v_if_lt hX d_M_isBlock_1 (tgt := 14) (by decide) (fun c1 => ?_) (fun c1 => ?_)
  · refine v_iconst (v := 0) hX d_M_isBlock_14 (by decide) ?_
    exact v_zret hX hE (by first | decide | rfl | exact oneOf_nar | exact blk_nar | exact inl_nar | assumption) d_M_isBlock_15 (Nat.le_of_ble_eq_true rfl) (Nat.le_of_ble_eq_true rfl) ⟨(by unfold isB; rw [if_pos c1]), rfl, rfl, rfl, rfl, rfl⟩
  · refine v_iload_n hX d_M_isBlock_4 rfl rfl ?_
    refine v_bipush (v := 6) hX d_M_isBlock_5 (by decide) ?_
    refine v_icmp_gt hX d_M_isBlock_7 (tgt := 14) (by decide) (fun c7 => ?_) (fun c7 => ?_)
    · refine v_iconst (v := 0) hX d_M_isBlock_14 (by decide) ?_
      exact v_zret hX hE (by first | decide | rfl | exact oneOf_nar | exact blk_nar | exact inl_nar | assumption) d_M_isBlock_15 (Nat.le_of_ble_eq_true rfl) (Nat.le_of_ble_eq_true rfl) ⟨(by unfold isB; rw [if_neg c1, if_pos c7]), rfl, rfl, rfl, rfl, rfl⟩
    · refine v_iconst (v := 1) hX d_M_isBlock_10 (by decide) ?_
      refine v_goto hX d_M_isBlock_11 (tgt := 15) (by decide) ?_
      exact v_zret hX hE (by first | decide | rfl | exact oneOf_nar | exact blk_nar | exact inl_nar | assumption) d_M_isBlock_15 (Nat.le_of_ble_eq_true rfl) (Nat.le_of_ble_eq_true rfl) ⟨(by unfold isB; rw [if_neg c1, if_neg c7]), rfl, rfl, rfl, rfl, rfl⟩
theorem c_M_isInline {l : Launch} {D : va_G} {A : Nat → Prop} {cI cB cZ cJ cN : ClassId} {dom : Nat → Prop} {loc : Nat → Nat} {val : Nat → va_E} (x : Int32) : kM l y_M_isInline (Cond.code y_M_isInline b_M_isInline 1 (some FieldType.boolean) :: TT) (rmM 1) D CL (TY cI cB cZ cJ cN) A [.int x] dom loc val (fun rv d lo va kc ns => rv = some (.int (isL x)) ∧ dom = d ∧ loc = lo ∧ val = va ∧ kc = 0 ∧ ns = 0) := by
  refine kM_of (lv0 := [some (.int x)]) (own := "ProsePagesModel") (by decide) rfl (List.forall_mem_cons.mpr ⟨rfl, fun _ h => nomatch h⟩) (Nat.le_of_ble_eq_true rfl) rfl (Nat.le_of_ble_eq_true rfl) (fun X hl hX hE hin0 => ?_)
  refine v_iload_n hX d_M_isInline_0 rfl rfl ?_
  refine v_bipush (v := 8) hX d_M_isInline_1 (by decide) ?_
  refine v_icmp_lt hX d_M_isInline_3 (tgt := 16) (by decide) (fun c3 => ?_) (fun c3 => ?_)
  · refine v_iconst (v := 0) hX d_M_isInline_16 (by decide) ?_
    exact v_zret hX hE (by first | decide | rfl | exact oneOf_nar | exact blk_nar | exact inl_nar | assumption) d_M_isInline_17 (Nat.le_of_ble_eq_true rfl) (Nat.le_of_ble_eq_true rfl) ⟨(by unfold isL; rw [if_pos c3]), rfl, rfl, rfl, rfl, rfl⟩
  · refine v_iload_n hX d_M_isInline_6 rfl rfl ?_
    refine v_bipush (v := 10) hX d_M_isInline_7 (by decide) ?_
    refine v_icmp_gt hX d_M_isInline_9 (tgt := 16) (by decide) (fun c9 => ?_) (fun c9 => ?_)
    · refine v_iconst (v := 0) hX d_M_isInline_16 (by decide) ?_
      exact v_zret hX hE (by first | decide | rfl | exact oneOf_nar | exact blk_nar | exact inl_nar | assumption) d_M_isInline_17 (Nat.le_of_ble_eq_true rfl) (Nat.le_of_ble_eq_true rfl) ⟨(by unfold isL; rw [if_neg c3, if_pos c9]), rfl, rfl, rfl, rfl, rfl⟩
    · refine v_iconst (v := 1) hX d_M_isInline_12 (by decide) ?_
      refine v_goto hX d_M_isInline_13 (tgt := 17) (by decide) ?_
      exact v_zret hX hE (by first | decide | rfl | exact oneOf_nar | exact blk_nar | exact inl_nar | assumption) d_M_isInline_17 (Nat.le_of_ble_eq_true rfl) (Nat.le_of_ble_eq_true rfl) ⟨(by unfold isL; rw [if_neg c3, if_neg c9]), rfl, rfl, rfl, rfl, rfl⟩
set_option maxHeartbeats 4000000 in
set_option maxRecDepth 100000 in
theorem c_M_holdsPar {l : Launch} {D : va_G} {A : Nat → Prop} {cI cB cZ cJ cN : ClassId} {ob : Nat → Nat} {C : CT} {T : TS} {O : OS} {dom : Nat → Prop} {loc : Nat → Nat} {val : Nat → va_E} (hM : ModI cI cB cZ ob C T O dom loc val) (hO : OI O) {i : Nat} (hi : i < ttN T) (hn3 : ttN T ≤ 300) : kM l y_M_holdsParagraph (Cond.code y_M_holdsParagraph b_M_holdsParagraph 4 (some FieldType.boolean) :: TT) (rmM 1) D CL (TY cI cB cZ cJ cN) A [.ref (ob 48), .int (nI i)] dom loc val (fun rv d lo va kc ns => rv = some (.int (hp T i)) ∧ dom = d ∧ loc = lo ∧ val = va ∧ kc = 0 ∧ ns = 0) := by
  refine kM_of (lv0 := [some (.ref (ob 48)), some (.int (nI i)), none, none]) (own := "ProsePagesModel") (by decide) rfl (List.forall_mem_cons.mpr ⟨rfl, List.forall_mem_cons.mpr ⟨rfl, fun _ h => nomatch h⟩⟩) (Nat.le_of_ble_eq_true rfl) rfl (Nat.le_of_ble_eq_true rfl) (fun X hl hX hE hin0 => ?_)
  refine v_iconst (v := 0) hX d_M_holdsParagraph_0 (by decide) ?_
  refine v_istore_n (lv' := [some (.ref (ob 48)), some (.int (nI i)), some (.int 0), none]) hX d_M_holdsParagraph_1 rfl (Nat.le_of_ble_eq_true rfl) rfl ?_
  refine v_iload_n hX d_M_holdsParagraph_2 rfl rfl ?_
  refine v_iconst (v := 1) hX d_M_holdsParagraph_3 (by decide) ?_
  refine v_iaddE (v := nI (i + 1)) hX d_M_holdsParagraph_4 (nI_add i 1) ?_
  refine v_istore_n (lv' := [some (.ref (ob 48)), some (.int (nI i)), some (.int 0), some (.int (nI (i + 1)))]) hX d_M_holdsParagraph_5 rfl (Nat.le_of_ble_eq_true rfl) rfl ?_
  have loop6 : ∀ (m9 p : Nat) (b : Int32), ttN T - p < m9 → i + 1 ≤ p ∧ p ≤ ttN T → hpL T i (ttN T - p) p b = hp T i → (b = 0 ∨ b = 1) → V X D CL A dom loc val 0 0 6 [some (.ref (ob 48)), some (.int (nI i)), some (.int b), some (.int (nI p))] [] := by
    intro m9
    induction m9 with
    | zero => intro p b hk; exact absurd hk (Nat.not_lt_zero _)
    | succ m9 ih6 =>
      intro p b hk6 hp6 hb6 h01
      obtain ⟨hp6a, hp6b⟩ := hp6
      refine v_iload_n hX d_M_holdsParagraph_6 rfl rfl ?_
      refine v_aload_n hX d_M_holdsParagraph_7 rfl rfl ?_
      refine v_mget hX hM 9 (v := .int (nI (ttN T))) (by decide) fl_M_101 rfl gf_nodes d_M_holdsParagraph_8 ?_
      refine v_icmp_ge hX d_M_holdsParagraph_11 (tgt := 49) (by decide) (fun c11 => ?_) (fun c11 => ?_)
      · have f11 : (ttN T) ≤ p := (nI_leI (a := (ttN T)) (b := p) (by omega) (by omega)).mp c11
        refine v_iload_n hX d_M_holdsParagraph_49 rfl rfl ?_
        exact v_zret hX hE (nar01 h01) d_M_holdsParagraph_50 (Nat.le_of_ble_eq_true rfl) (Nat.le_of_ble_eq_true rfl) ⟨congrArg (fun z => some (Value.int z)) (show b = hp T i by rw [← hb6, show ttN T - p = 0 by omega]; rfl), rfl, rfl, rfl, rfl, rfl⟩
      · have f11 : ¬ (ttN T) ≤ p := fun z => c11 ((nI_leI (a := (ttN T)) (b := p) (by omega) (by omega)).mpr z)
        refine v_iload_n hX d_M_holdsParagraph_14 rfl rfl ?_
        refine v_if_ne hX d_M_holdsParagraph_15 (tgt := 37) (by decide) (fun c15 => ?_) (fun c15 => ?_)
        · refine v_iconst (v := 1) hX d_M_holdsParagraph_37 (by decide) ?_
          refine v_goto hX d_M_holdsParagraph_38 (tgt := 42) (by decide) ?_
          refine v_istore_n (lv' := [some (.ref (ob 48)), some (.int (nI i)), some (.int 1), some (.int (nI p))]) hX d_M_holdsParagraph_42 rfl (Nat.le_of_ble_eq_true rfl) rfl ?_
          refine v_iinc (y := (nI (p + 1))) (lv' := [some (.ref (ob 48)), some (.int (nI i)), some (.int 1), some (.int (nI (p + 1)))]) hX d_M_holdsParagraph_43 rfl (nI_1 p) rfl ?_
          refine v_goto hX d_M_holdsParagraph_46 (tgt := 6) (by decide) ?_
          exact ih6 (p + 1) 1 (by omega) (by omega) (by rw [← hb6, show ttN T - p = ttN T - (p + 1) + 1 by omega, hpL_s, if_neg c15]) (by first | exact Or.inl rfl | exact Or.inr rfl)
        · refine v_aload_n hX d_M_holdsParagraph_18 rfl rfl ?_
          refine v_mget hX hM 2 (v := .ref (ob 50)) (by decide) fl_M_13 rfl rfl d_M_holdsParagraph_19 ?_
          refine v_iload_n hX d_M_holdsParagraph_22 rfl rfl ?_
          refine v_mild hX hM 1 (i := p) (v := ((ttU T) p)) ga_up (by omega) (by decide) rfl d_M_holdsParagraph_23 ?_
          refine v_iload_n hX d_M_holdsParagraph_24 rfl rfl ?_
          refine v_icmp_ne hX d_M_holdsParagraph_25 (tgt := 41) (by decide) (fun c25 => ?_) (fun c25 => ?_)
          · refine v_iconst (v := 0) hX d_M_holdsParagraph_41 (by decide) ?_
            refine v_istore_n (lv' := [some (.ref (ob 48)), some (.int (nI i)), some (.int 0), some (.int (nI p))]) hX d_M_holdsParagraph_42 rfl (Nat.le_of_ble_eq_true rfl) rfl ?_
            refine v_iinc (y := (nI (p + 1))) (lv' := [some (.ref (ob 48)), some (.int (nI i)), some (.int 0), some (.int (nI (p + 1)))]) hX d_M_holdsParagraph_43 rfl (nI_1 p) rfl ?_
            refine v_goto hX d_M_holdsParagraph_46 (tgt := 6) (by decide) ?_
            exact ih6 (p + 1) 0 (by omega) (by omega) (by rw [← hb6, show ttN T - p = ttN T - (p + 1) + 1 by omega, hpL_s, if_pos c15, if_neg c25]) (by first | exact Or.inl rfl | exact Or.inr rfl)
          · refine v_aload_n hX d_M_holdsParagraph_28 rfl rfl ?_
            refine v_mget hX hM 1 (v := .ref (ob 49)) (by decide) fl_M_7 rfl rfl d_M_holdsParagraph_29 ?_
            refine v_iload_n hX d_M_holdsParagraph_32 rfl rfl ?_
            refine v_mild hX hM 0 (i := p) (v := ((ttK T) p)) ga_kind (by omega) (by decide) rfl d_M_holdsParagraph_33 ?_
            refine v_if_ne hX d_M_holdsParagraph_34 (tgt := 41) (by decide) (fun c34 => ?_) (fun c34 => ?_)
            · refine v_iconst (v := 0) hX d_M_holdsParagraph_41 (by decide) ?_
              refine v_istore_n (lv' := [some (.ref (ob 48)), some (.int (nI i)), some (.int 0), some (.int (nI p))]) hX d_M_holdsParagraph_42 rfl (Nat.le_of_ble_eq_true rfl) rfl ?_
              refine v_iinc (y := (nI (p + 1))) (lv' := [some (.ref (ob 48)), some (.int (nI i)), some (.int 0), some (.int (nI (p + 1)))]) hX d_M_holdsParagraph_43 rfl (nI_1 p) rfl ?_
              refine v_goto hX d_M_holdsParagraph_46 (tgt := 6) (by decide) ?_
              exact ih6 (p + 1) 0 (by omega) (by omega) (by rw [← hb6, show ttN T - p = ttN T - (p + 1) + 1 by omega, hpL_s, if_pos c15, if_pos c25, if_neg c34]) (by first | exact Or.inl rfl | exact Or.inr rfl)
            · refine v_iconst (v := 1) hX d_M_holdsParagraph_37 (by decide) ?_
              refine v_goto hX d_M_holdsParagraph_38 (tgt := 42) (by decide) ?_
              refine v_istore_n (lv' := [some (.ref (ob 48)), some (.int (nI i)), some (.int 1), some (.int (nI p))]) hX d_M_holdsParagraph_42 rfl (Nat.le_of_ble_eq_true rfl) rfl ?_
              refine v_iinc (y := (nI (p + 1))) (lv' := [some (.ref (ob 48)), some (.int (nI i)), some (.int 1), some (.int (nI (p + 1)))]) hX d_M_holdsParagraph_43 rfl (nI_1 p) rfl ?_
              refine v_goto hX d_M_holdsParagraph_46 (tgt := 6) (by decide) ?_
              exact ih6 (p + 1) 1 (by omega) (by omega) (by rw [← hb6, show ttN T - p = ttN T - (p + 1) + 1 by omega, hpL_s, if_pos c15, if_pos c25, if_pos c34]) (by first | exact Or.inl rfl | exact Or.inr rfl)
  exact loop6 _ (i + 1) 0 (Nat.lt_succ_self _) ⟨Nat.le_refl _, by omega⟩ rfl (Or.inl rfl)
set_option maxHeartbeats 4000000 in
set_option maxRecDepth 100000 in
theorem c_M_holdsWide {l : Launch} {D : va_G} {A : Nat → Prop} {cI cB cZ cJ cN : ClassId} {ob : Nat → Nat} {C : CT} {T : TS} {O : OS} {dom : Nat → Prop} {loc : Nat → Nat} {val : Nat → va_E} (hM : ModI cI cB cZ ob C T O dom loc val) (hO : OI O) {i : Nat} (hi : i < ttN T) (hn3 : ttN T ≤ 300) : kM l y_M_holdsWideItem (Cond.code y_M_holdsWideItem b_M_holdsWideItem 4 (some FieldType.boolean) :: TT) (rmM 2) D CL (TY cI cB cZ cJ cN) A [.ref (ob 48), .int (nI i)] dom loc val (fun rv d lo va kc ns => rv = some (.int (hw T i)) ∧ dom = d ∧ loc = lo ∧ val = va ∧ kc = 0 ∧ ns = 0) := by
  refine kM_of (lv0 := [some (.ref (ob 48)), some (.int (nI i)), none, none]) (own := "ProsePagesModel") (by decide) rfl (List.forall_mem_cons.mpr ⟨rfl, List.forall_mem_cons.mpr ⟨rfl, fun _ h => nomatch h⟩⟩) (Nat.le_of_ble_eq_true rfl) rfl (Nat.le_of_ble_eq_true rfl) (fun X hl hX hE hin0 => ?_)
  refine v_iconst (v := 0) hX d_M_holdsWideItem_0 (by decide) ?_
  refine v_istore_n (lv' := [some (.ref (ob 48)), some (.int (nI i)), some (.int 0), none]) hX d_M_holdsWideItem_1 rfl (Nat.le_of_ble_eq_true rfl) rfl ?_
  refine v_iload_n hX d_M_holdsWideItem_2 rfl rfl ?_
  refine v_iconst (v := 1) hX d_M_holdsWideItem_3 (by decide) ?_
  refine v_iaddE (v := nI (i + 1)) hX d_M_holdsWideItem_4 (nI_add i 1) ?_
  refine v_istore_n (lv' := [some (.ref (ob 48)), some (.int (nI i)), some (.int 0), some (.int (nI (i + 1)))]) hX d_M_holdsWideItem_5 rfl (Nat.le_of_ble_eq_true rfl) rfl ?_
  have loop6 : ∀ (m9 p : Nat) (b : Int32), ttN T - p < m9 → i + 1 ≤ p ∧ p ≤ ttN T → hwL T i (ttN T - p) p b = hw T i → (b = 0 ∨ b = 1) → V X D CL A dom loc val 0 0 6 [some (.ref (ob 48)), some (.int (nI i)), some (.int b), some (.int (nI p))] [] := by
    intro m9
    induction m9 with
    | zero => intro p b hk; exact absurd hk (Nat.not_lt_zero _)
    | succ m9 ih6 =>
      intro p b hk6 hp6 hb6 h01
      obtain ⟨hp6a, hp6b⟩ := hp6
      refine v_iload_n hX d_M_holdsWideItem_6 rfl rfl ?_
      refine v_aload_n hX d_M_holdsWideItem_7 rfl rfl ?_
      refine v_mget hX hM 9 (v := .int (nI (ttN T))) (by decide) fl_M_101 rfl gf_nodes d_M_holdsWideItem_8 ?_
      refine v_icmp_ge hX d_M_holdsWideItem_11 (tgt := 48) (by decide) (fun c11 => ?_) (fun c11 => ?_)
      · have f11 : (ttN T) ≤ p := (nI_leI (a := (ttN T)) (b := p) (by omega) (by omega)).mp c11
        refine v_iload_n hX d_M_holdsWideItem_48 rfl rfl ?_
        exact v_zret hX hE (nar01 h01) d_M_holdsWideItem_49 (Nat.le_of_ble_eq_true rfl) (Nat.le_of_ble_eq_true rfl) ⟨congrArg (fun z => some (Value.int z)) (show b = hw T i by rw [← hb6, show ttN T - p = 0 by omega]; rfl), rfl, rfl, rfl, rfl, rfl⟩
      · have f11 : ¬ (ttN T) ≤ p := fun z => c11 ((nI_leI (a := (ttN T)) (b := p) (by omega) (by omega)).mpr z)
        refine v_iload_n hX d_M_holdsWideItem_14 rfl rfl ?_
        refine v_if_ne hX d_M_holdsWideItem_15 (tgt := 36) (by decide) (fun c15 => ?_) (fun c15 => ?_)
        · refine v_iconst (v := 1) hX d_M_holdsWideItem_36 (by decide) ?_
          refine v_goto hX d_M_holdsWideItem_37 (tgt := 41) (by decide) ?_
          refine v_istore_n (lv' := [some (.ref (ob 48)), some (.int (nI i)), some (.int 1), some (.int (nI p))]) hX d_M_holdsWideItem_41 rfl (Nat.le_of_ble_eq_true rfl) rfl ?_
          refine v_iinc (y := (nI (p + 1))) (lv' := [some (.ref (ob 48)), some (.int (nI i)), some (.int 1), some (.int (nI (p + 1)))]) hX d_M_holdsWideItem_42 rfl (nI_1 p) rfl ?_
          refine v_goto hX d_M_holdsWideItem_45 (tgt := 6) (by decide) ?_
          exact ih6 (p + 1) 1 (by omega) (by omega) (by rw [← hb6, show ttN T - p = ttN T - (p + 1) + 1 by omega, hwL_s, if_neg c15]) (by first | exact Or.inl rfl | exact Or.inr rfl)
        · refine v_aload_n hX d_M_holdsWideItem_18 rfl rfl ?_
          refine v_mget hX hM 2 (v := .ref (ob 50)) (by decide) fl_M_13 rfl rfl d_M_holdsWideItem_19 ?_
          refine v_iload_n hX d_M_holdsWideItem_22 rfl rfl ?_
          refine v_mild hX hM 1 (i := p) (v := ((ttU T) p)) ga_up (by omega) (by decide) rfl d_M_holdsWideItem_23 ?_
          refine v_iload_n hX d_M_holdsWideItem_24 rfl rfl ?_
          refine v_icmp_ne hX d_M_holdsWideItem_25 (tgt := 40) (by decide) (fun c25 => ?_) (fun c25 => ?_)
          · refine v_iconst (v := 0) hX d_M_holdsWideItem_40 (by decide) ?_
            refine v_istore_n (lv' := [some (.ref (ob 48)), some (.int (nI i)), some (.int 0), some (.int (nI p))]) hX d_M_holdsWideItem_41 rfl (Nat.le_of_ble_eq_true rfl) rfl ?_
            refine v_iinc (y := (nI (p + 1))) (lv' := [some (.ref (ob 48)), some (.int (nI i)), some (.int 0), some (.int (nI (p + 1)))]) hX d_M_holdsWideItem_42 rfl (nI_1 p) rfl ?_
            refine v_goto hX d_M_holdsWideItem_45 (tgt := 6) (by decide) ?_
            exact ih6 (p + 1) 0 (by omega) (by omega) (by rw [← hb6, show ttN T - p = ttN T - (p + 1) + 1 by omega, hwL_s, if_pos c15, if_neg c25]) (by first | exact Or.inl rfl | exact Or.inr rfl)
          · refine v_aload_n hX d_M_holdsWideItem_28 rfl rfl ?_
            refine v_iload_n hX d_M_holdsWideItem_29 rfl rfl ?_
            refine c_V hX 48 (rest := []) hl (c_M_holdsPar hM hO (i := p) (by omega) (by omega)) ml_M_201 im_M_holdsParagraph se_M_holdsParagraph in_M cd_M_holdsParagraph rfl q_M_holdsParagraph ⟨(Nat.le_of_ble_eq_true rfl), (Nat.le_of_ble_eq_true rfl)⟩ hM.1.1 hM.1.2.1 hM.1.2.2 rfl rfl rfl rfl (Nat.le_of_ble_eq_true rfl) d_M_holdsWideItem_30 ⟨(Nat.le_of_ble_eq_true rfl), (Nat.le_of_ble_eq_true rfl)⟩ (fun rv d2 lo2 va2 kc ns hp => ?_)
            obtain ⟨rfl, rfl, rfl, rfl, rfl, rfl⟩ := hp
            show V X D CL A _ _ _ _ _ _ _ (.int (hp T p) :: [])
            refine v_if_eq hX d_M_holdsWideItem_33 (tgt := 40) (by decide) (fun c33 => ?_) (fun c33 => ?_)
            · refine v_iconst (v := 0) hX d_M_holdsWideItem_40 (by decide) ?_
              refine v_istore_n (lv' := [some (.ref (ob 48)), some (.int (nI i)), some (.int 0), some (.int (nI p))]) hX d_M_holdsWideItem_41 rfl (Nat.le_of_ble_eq_true rfl) rfl ?_
              refine v_iinc (y := (nI (p + 1))) (lv' := [some (.ref (ob 48)), some (.int (nI i)), some (.int 0), some (.int (nI (p + 1)))]) hX d_M_holdsWideItem_42 rfl (nI_1 p) rfl ?_
              refine v_goto hX d_M_holdsWideItem_45 (tgt := 6) (by decide) ?_
              exact ih6 (p + 1) 0 (by omega) (by omega) (by rw [← hb6, show ttN T - p = ttN T - (p + 1) + 1 by omega, hwL_s, if_pos c15, if_pos c25, if_pos c33]) (by first | exact Or.inl rfl | exact Or.inr rfl)
            · refine v_iconst (v := 1) hX d_M_holdsWideItem_36 (by decide) ?_
              refine v_goto hX d_M_holdsWideItem_37 (tgt := 41) (by decide) ?_
              refine v_istore_n (lv' := [some (.ref (ob 48)), some (.int (nI i)), some (.int 1), some (.int (nI p))]) hX d_M_holdsWideItem_41 rfl (Nat.le_of_ble_eq_true rfl) rfl ?_
              refine v_iinc (y := (nI (p + 1))) (lv' := [some (.ref (ob 48)), some (.int (nI i)), some (.int 1), some (.int (nI (p + 1)))]) hX d_M_holdsWideItem_42 rfl (nI_1 p) rfl ?_
              refine v_goto hX d_M_holdsWideItem_45 (tgt := 6) (by decide) ?_
              exact ih6 (p + 1) 1 (by omega) (by omega) (by rw [← hb6, show ttN T - p = ttN T - (p + 1) + 1 by omega, hwL_s, if_pos c15, if_pos c25, if_neg c33]) (by first | exact Or.inl rfl | exact Or.inr rfl)
  exact loop6 _ (i + 1) 0 (Nat.lt_succ_self _) ⟨Nat.le_refl _, by omega⟩ rfl (Or.inl rfl)
