/-- how a helper of the law ends -/
abbrev PLw (cJ : ClassId) (fst : String) (Post : kT) (PT : kTT) : kT := fun rv d lo va kc ns => (∃ v va0 f, Post (some (.int v)) d lo va0 kc ns ∧ rv = some (.int 0) ∧ va = va_up va0 76 (.inl (cJ, 1, .inr (.inl f))) ∧ f (Int32.toNatClampNeg 0) = v.toInt64) ∨ (∃ E, PT E d lo va kc ns ∧ rv = some (.int (if E = fst then 1 else 2)))
set_option maxHeartbeats 4000000 in
set_option maxRecDepth 100000 in
theorem c_L_begin {l : Launch} {D : va_G} {A : Nat → Prop} {cI cB cZ cJ cN : ClassId} {dom : Nat → Prop} {loc : Nat → Nat} {val : Nat → va_E} {Post : kT} {PT : kTT} {ph a0 a76 : Nat} {fs : List Value} (x0 x1 : Int32) (hM : kMX l y_P_begin (Cond.code y_P_begin b_P_begin 4 (some FieldType.int) :: TT) (rmQ 60 ph) D CL (TY cI cB cZ cJ cN) A [.ref a0, .int x0, .int x1] dom loc val Post PT) (h0 : dom 0 ∧ loc 0 = a0 ∧ val 0 = .inr (4, fs)) (hK : ∀ rv d lo va k n, Post rv d lo va k n → (∃ v, rv = some (.int v)) ∧ (d 76 ∧ lo 76 = a76 ∧ ∃ f, va 76 = .inl (cJ, 1, .inr (.inl f))) ∧ k ≤ 140 + (2663816 - ph) / 16 ∧ n ≤ 700100 + (2663816 - ph)) (hKT : ∀ E d lo va k n, PT E d lo va k n → (E = "java/lang/IllegalArgumentException" ∨ E = "java/lang/IllegalStateException") ∧ k ≤ 140 + (2663816 - ph) / 16 ∧ n ≤ 700100 + (2663816 - ph)) : kM l y_L_begin (Cond.codeWith y_L_begin b_L_begin 5 (some FieldType.int) [(0, 10, 13, 13), (0, 10, 17, 15)] :: TT) (rmQ 61 ph) D CL (TY cI cB cZ cJ cN) A [.ref a0, .int x0, .int x1, .ref a76] dom loc val (PLw cJ "java/lang/IllegalStateException" Post PT) := by
  refine kMW_of (lv0 := [some (.ref a0), some (.int x0), some (.int x1), some (.ref a76), none]) (own := "ProsePagesLaw") (by decide) rfl (List.forall_mem_cons.mpr ⟨rfl, List.forall_mem_cons.mpr ⟨rfl, List.forall_mem_cons.mpr ⟨rfl, List.forall_mem_cons.mpr ⟨rfl, fun _ h => nomatch h⟩⟩⟩⟩) (Nat.le_of_ble_eq_true rfl) rfl (Nat.le_of_ble_eq_true rfl) (fun X hl hX htab hE => ?_)
  refine v_aload_n hX d_L_begin_0 rfl rfl ?_
  refine v_iconst (v := 0) hX d_L_begin_1 (by decide) ?_
  refine v_aload_n hX d_L_begin_2 rfl rfl ?_
  refine v_iload_n hX d_L_begin_3 rfl rfl ?_
  refine v_iload_n hX d_L_begin_4 rfl rfl ?_
  refine c_VX hX 0 (rest := [.int 0, .ref a76]) hl hM ml_L_7 im_P_begin se_P_begin in_P cd_P_begin q_P_begin ⟨(Nat.le_of_ble_eq_true rfl), (Nat.le_of_ble_eq_true rfl)⟩ h0.1 h0.2.1 h0.2.2 rfl rfl rfl rfl (Nat.le_of_ble_eq_true rfl) d_L_begin_5 ⟨by show 0 + (140 + (2663816 - ph) / 16) ≤ 140 + (2663816 - ph) / 16; omega, by show 0 + (700100 + (2663816 - ph)) ≤ 700100 + (2663816 - ph); omega⟩ (fun rv d2 lo2 va2 kc ns hp => ?_) (fun E d2 lo2 va2 kc ns hp => ?_)
  · obtain ⟨⟨v, rfl⟩, ⟨g1, g2, f, g3⟩, g4, g5⟩ := hK _ _ _ _ _ _ hp
    show V X D CL A _ _ _ _ _ _ _ [.int v, .int 0, .ref a76]
    refine v_i2l (v := v.toInt64) hX d_L_begin_8 rfl ?_
    refine v_last hX 76 3 g1 g2 g3 rfl (vpb (by decide)) d_L_begin_9 ?_
    refine v_goto hX d_L_begin_10 (tgt := 21) (by decide) ?_
    refine v_iconst (v := 0) hX d_L_begin_21 (by decide) ?_
    exact v_iret hX hE d_L_begin_22 (by show 0 + kc ≤ 140 + (2663816 - ph) / 16; omega) (by show 0 + ns ≤ 700100 + (2663816 - ph); omega) (by rw [Nat.zero_add, Nat.zero_add]; exact Or.inl ⟨v, _, _, hp, rfl, rfl, if_pos rfl⟩)
  · obtain ⟨hE9, g4, g5⟩ := hKT _ _ _ _ _ _ hp
    rcases hE9 with rfl | rfl
    · refine ⟨17, xCatch2 hX htab (by decide) (by decide) cl_L_13 (nf_args (by decide) (hX.2.2.2.2.2.2.2.2.2.now.1 _ (by decide)) _) (by decide) (by decide) cl_L_15 (nf_args (by decide) (hX.2.2.2.2.2.2.2.2.2.now.1 _ (by decide)) _), fun q => ?_⟩
      refine v_astore (lv' := [some (.ref a0), some (.int x0), some (.int x1), some (.ref a76), some (.ref q)]) hX d_L_begin_17 (Nat.le_of_ble_eq_true rfl) rfl ?_
      refine v_iconst (v := 2) hX d_L_begin_19 (by decide) ?_
      exact v_iret hX hE d_L_begin_20 (by show 0 + kc ≤ 140 + (2663816 - ph) / 16; omega) (by show 0 + ns ≤ 700100 + (2663816 - ph); omega) (by rw [Nat.zero_add, Nat.zero_add]; exact Or.inr ⟨_, hp, by rw [if_neg (by decide)]⟩)
    · refine ⟨13, xCatch1 hX htab (by decide) (by decide) cl_L_13 (nf_args (by decide) (hX.2.2.2.2.2.2.2.2.2.now.1 _ (by decide)) _), fun q => ?_⟩
      refine v_astore (lv' := [some (.ref a0), some (.int x0), some (.int x1), some (.ref a76), some (.ref q)]) hX d_L_begin_13 (Nat.le_of_ble_eq_true rfl) rfl ?_
      refine v_iconst (v := 1) hX d_L_begin_15 (by decide) ?_
      exact v_iret hX hE d_L_begin_16 (by show 0 + kc ≤ 140 + (2663816 - ph) / 16; omega) (by show 0 + ns ≤ 700100 + (2663816 - ph); omega) (by rw [Nat.zero_add, Nat.zero_add]; exact Or.inr ⟨_, hp, by rw [if_pos rfl]⟩)
set_option maxHeartbeats 4000000 in
set_option maxRecDepth 100000 in
theorem c_L_say {l : Launch} {D : va_G} {A : Nat → Prop} {cI cB cZ cJ cN : ClassId} {dom : Nat → Prop} {loc : Nat → Nat} {val : Nat → va_E} {Post : kT} {PT : kTT} {ph a0 a76 : Nat} {fs : List Value} (x0 x1 x2 x3 x4 : Int32) (hM : kMX l y_P_say (Cond.code y_P_say b_P_say 7 (some FieldType.int) :: TT) (rmQ 60 ph) D CL (TY cI cB cZ cJ cN) A [.ref a0, .int x0, .int x1, .int x2, .int x3, .int x4] dom loc val Post PT) (h0 : dom 0 ∧ loc 0 = a0 ∧ val 0 = .inr (4, fs)) (hK : ∀ rv d lo va k n, Post rv d lo va k n → (∃ v, rv = some (.int v)) ∧ (d 76 ∧ lo 76 = a76 ∧ ∃ f, va 76 = .inl (cJ, 1, .inr (.inl f))) ∧ k ≤ 140 + (2663816 - ph) / 16 ∧ n ≤ 700100 + (2663816 - ph)) (hKT : ∀ E d lo va k n, PT E d lo va k n → (E = "java/lang/IllegalArgumentException" ∨ E = "java/lang/IllegalStateException") ∧ k ≤ 140 + (2663816 - ph) / 16 ∧ n ≤ 700100 + (2663816 - ph)) : kM l y_L_say (Cond.codeWith y_L_say b_L_say 8 (some FieldType.int) [(0, 16, 19, 15), (0, 16, 23, 13)] :: TT) (rmQ 61 ph) D CL (TY cI cB cZ cJ cN) A [.ref a0, .int x0, .int x1, .int x2, .int x3, .int x4, .ref a76] dom loc val (PLw cJ "java/lang/IllegalArgumentException" Post PT) := by
  refine kMW_of (lv0 := [some (.ref a0), some (.int x0), some (.int x1), some (.int x2), some (.int x3), some (.int x4), some (.ref a76), none]) (own := "ProsePagesLaw") (by decide) rfl (List.forall_mem_cons.mpr ⟨rfl, List.forall_mem_cons.mpr ⟨rfl, List.forall_mem_cons.mpr ⟨rfl, List.forall_mem_cons.mpr ⟨rfl, List.forall_mem_cons.mpr ⟨rfl, List.forall_mem_cons.mpr ⟨rfl, List.forall_mem_cons.mpr ⟨rfl, fun _ h => nomatch h⟩⟩⟩⟩⟩⟩⟩) (Nat.le_of_ble_eq_true rfl) rfl (Nat.le_of_ble_eq_true rfl) (fun X hl hX htab hE => ?_)
  refine v_aload hX d_L_say_0 rfl ?_
  refine v_iconst (v := 0) hX d_L_say_2 (by decide) ?_
  refine v_aload_n hX d_L_say_3 rfl rfl ?_
  refine v_iload_n hX d_L_say_4 rfl rfl ?_
  refine v_iload_n hX d_L_say_5 rfl rfl ?_
  refine v_iload_n hX d_L_say_6 rfl rfl ?_
  refine v_iload hX d_L_say_7 rfl ?_
  refine v_iload hX d_L_say_9 rfl ?_
  refine c_VX hX 0 (rest := [.int 0, .ref a76]) hl hM ml_L_17 im_P_say se_P_say in_P cd_P_say q_P_say ⟨(Nat.le_of_ble_eq_true rfl), (Nat.le_of_ble_eq_true rfl)⟩ h0.1 h0.2.1 h0.2.2 rfl rfl rfl rfl (Nat.le_of_ble_eq_true rfl) d_L_say_11 ⟨by show 0 + (140 + (2663816 - ph) / 16) ≤ 140 + (2663816 - ph) / 16; omega, by show 0 + (700100 + (2663816 - ph)) ≤ 700100 + (2663816 - ph); omega⟩ (fun rv d2 lo2 va2 kc ns hp => ?_) (fun E d2 lo2 va2 kc ns hp => ?_)
  · obtain ⟨⟨v, rfl⟩, ⟨g1, g2, f, g3⟩, g4, g5⟩ := hK _ _ _ _ _ _ hp
    show V X D CL A _ _ _ _ _ _ _ [.int v, .int 0, .ref a76]
    refine v_i2l (v := v.toInt64) hX d_L_say_14 rfl ?_
    refine v_last hX 76 3 g1 g2 g3 rfl (vpb (by decide)) d_L_say_15 ?_
    refine v_goto hX d_L_say_16 (tgt := 27) (by decide) ?_
    refine v_iconst (v := 0) hX d_L_say_27 (by decide) ?_
    exact v_iret hX hE d_L_say_28 (by show 0 + kc ≤ 140 + (2663816 - ph) / 16; omega) (by show 0 + ns ≤ 700100 + (2663816 - ph); omega) (by rw [Nat.zero_add, Nat.zero_add]; exact Or.inl ⟨v, _, _, hp, rfl, rfl, if_pos rfl⟩)
  · obtain ⟨hE9, g4, g5⟩ := hKT _ _ _ _ _ _ hp
    rcases hE9 with rfl | rfl
    · refine ⟨19, xCatch1 hX htab (by decide) (by decide) cl_L_15 (nf_args (by decide) (hX.2.2.2.2.2.2.2.2.2.now.1 _ (by decide)) _), fun q => ?_⟩
      refine v_astore (lv' := [some (.ref a0), some (.int x0), some (.int x1), some (.int x2), some (.int x3), some (.int x4), some (.ref a76), some (.ref q)]) hX d_L_say_19 (Nat.le_of_ble_eq_true rfl) rfl ?_
      refine v_iconst (v := 1) hX d_L_say_21 (by decide) ?_
      exact v_iret hX hE d_L_say_22 (by show 0 + kc ≤ 140 + (2663816 - ph) / 16; omega) (by show 0 + ns ≤ 700100 + (2663816 - ph); omega) (by rw [Nat.zero_add, Nat.zero_add]; exact Or.inr ⟨_, hp, by rw [if_pos rfl]⟩)
    · refine ⟨23, xCatch2 hX htab (by decide) (by decide) cl_L_15 (nf_args (by decide) (hX.2.2.2.2.2.2.2.2.2.now.1 _ (by decide)) _) (by decide) (by decide) cl_L_13 (nf_args (by decide) (hX.2.2.2.2.2.2.2.2.2.now.1 _ (by decide)) _), fun q => ?_⟩
      refine v_astore (lv' := [some (.ref a0), some (.int x0), some (.int x1), some (.int x2), some (.int x3), some (.int x4), some (.ref a76), some (.ref q)]) hX d_L_say_23 (Nat.le_of_ble_eq_true rfl) rfl ?_
      refine v_iconst (v := 2) hX d_L_say_25 (by decide) ?_
      exact v_iret hX hE d_L_say_26 (by show 0 + kc ≤ 140 + (2663816 - ph) / 16; omega) (by show 0 + ns ≤ 700100 + (2663816 - ph); omega) (by rw [Nat.zero_add, Nat.zero_add]; exact Or.inr ⟨_, hp, by rw [if_neg (by decide)]⟩)
set_option maxHeartbeats 4000000 in
set_option maxRecDepth 100000 in
theorem c_L_pages {l : Launch} {D : va_G} {A : Nat → Prop} {cI cB cZ cJ cN : ClassId} {dom : Nat → Prop} {loc : Nat → Nat} {val : Nat → va_E} {Post : kT} {PT : kTT} {ph a0 a76 : Nat} {fs : List Value} (x0 x1 : Int32) (hM : kMX l y_P_pages (Cond.code y_P_pages b_P_pages 4 (some FieldType.int) :: TT) (rmQ 60 ph) D CL (TY cI cB cZ cJ cN) A [.ref a0, .int x0, .int x1] dom loc val Post PT) (h0 : dom 0 ∧ loc 0 = a0 ∧ val 0 = .inr (4, fs)) (hK : ∀ rv d lo va k n, Post rv d lo va k n → (∃ v, rv = some (.int v)) ∧ (d 76 ∧ lo 76 = a76 ∧ ∃ f, va 76 = .inl (cJ, 1, .inr (.inl f))) ∧ k ≤ 140 + (2663816 - ph) / 16 ∧ n ≤ 700100 + (2663816 - ph)) (hKT : ∀ E d lo va k n, PT E d lo va k n → (E = "java/lang/IllegalArgumentException" ∨ E = "java/lang/IllegalStateException") ∧ k ≤ 140 + (2663816 - ph) / 16 ∧ n ≤ 700100 + (2663816 - ph)) : kM l y_L_pages (Cond.codeWith y_L_pages b_L_pages 5 (some FieldType.int) [(0, 10, 13, 15), (0, 10, 17, 13)] :: TT) (rmQ 61 ph) D CL (TY cI cB cZ cJ cN) A [.ref a0, .int x0, .int x1, .ref a76] dom loc val (PLw cJ "java/lang/IllegalArgumentException" Post PT) := by
  refine kMW_of (lv0 := [some (.ref a0), some (.int x0), some (.int x1), some (.ref a76), none]) (own := "ProsePagesLaw") (by decide) rfl (List.forall_mem_cons.mpr ⟨rfl, List.forall_mem_cons.mpr ⟨rfl, List.forall_mem_cons.mpr ⟨rfl, List.forall_mem_cons.mpr ⟨rfl, fun _ h => nomatch h⟩⟩⟩⟩) (Nat.le_of_ble_eq_true rfl) rfl (Nat.le_of_ble_eq_true rfl) (fun X hl hX htab hE => ?_)
  refine v_aload_n hX d_L_pages_0 rfl rfl ?_
  refine v_iconst (v := 0) hX d_L_pages_1 (by decide) ?_
  refine v_aload_n hX d_L_pages_2 rfl rfl ?_
  refine v_iload_n hX d_L_pages_3 rfl rfl ?_
  refine v_iload_n hX d_L_pages_4 rfl rfl ?_
  refine c_VX hX 0 (rest := [.int 0, .ref a76]) hl hM ml_L_21 im_P_pages se_P_pages in_P cd_P_pages q_P_pages ⟨(Nat.le_of_ble_eq_true rfl), (Nat.le_of_ble_eq_true rfl)⟩ h0.1 h0.2.1 h0.2.2 rfl rfl rfl rfl (Nat.le_of_ble_eq_true rfl) d_L_pages_5 ⟨by show 0 + (140 + (2663816 - ph) / 16) ≤ 140 + (2663816 - ph) / 16; omega, by show 0 + (700100 + (2663816 - ph)) ≤ 700100 + (2663816 - ph); omega⟩ (fun rv d2 lo2 va2 kc ns hp => ?_) (fun E d2 lo2 va2 kc ns hp => ?_)
  · obtain ⟨⟨v, rfl⟩, ⟨g1, g2, f, g3⟩, g4, g5⟩ := hK _ _ _ _ _ _ hp
    show V X D CL A _ _ _ _ _ _ _ [.int v, .int 0, .ref a76]
    refine v_i2l (v := v.toInt64) hX d_L_pages_8 rfl ?_
    refine v_last hX 76 3 g1 g2 g3 rfl (vpb (by decide)) d_L_pages_9 ?_
    refine v_goto hX d_L_pages_10 (tgt := 21) (by decide) ?_
    refine v_iconst (v := 0) hX d_L_pages_21 (by decide) ?_
    exact v_iret hX hE d_L_pages_22 (by show 0 + kc ≤ 140 + (2663816 - ph) / 16; omega) (by show 0 + ns ≤ 700100 + (2663816 - ph); omega) (by rw [Nat.zero_add, Nat.zero_add]; exact Or.inl ⟨v, _, _, hp, rfl, rfl, if_pos rfl⟩)
  · obtain ⟨hE9, g4, g5⟩ := hKT _ _ _ _ _ _ hp
    rcases hE9 with rfl | rfl
    · refine ⟨13, xCatch1 hX htab (by decide) (by decide) cl_L_15 (nf_args (by decide) (hX.2.2.2.2.2.2.2.2.2.now.1 _ (by decide)) _), fun q => ?_⟩
      refine v_astore (lv' := [some (.ref a0), some (.int x0), some (.int x1), some (.ref a76), some (.ref q)]) hX d_L_pages_13 (Nat.le_of_ble_eq_true rfl) rfl ?_
      refine v_iconst (v := 1) hX d_L_pages_15 (by decide) ?_
      exact v_iret hX hE d_L_pages_16 (by show 0 + kc ≤ 140 + (2663816 - ph) / 16; omega) (by show 0 + ns ≤ 700100 + (2663816 - ph); omega) (by rw [Nat.zero_add, Nat.zero_add]; exact Or.inr ⟨_, hp, by rw [if_pos rfl]⟩)
    · refine ⟨17, xCatch2 hX htab (by decide) (by decide) cl_L_15 (nf_args (by decide) (hX.2.2.2.2.2.2.2.2.2.now.1 _ (by decide)) _) (by decide) (by decide) cl_L_13 (nf_args (by decide) (hX.2.2.2.2.2.2.2.2.2.now.1 _ (by decide)) _), fun q => ?_⟩
      refine v_astore (lv' := [some (.ref a0), some (.int x0), some (.int x1), some (.ref a76), some (.ref q)]) hX d_L_pages_17 (Nat.le_of_ble_eq_true rfl) rfl ?_
      refine v_iconst (v := 2) hX d_L_pages_19 (by decide) ?_
      exact v_iret hX hE d_L_pages_20 (by show 0 + kc ≤ 140 + (2663816 - ph) / 16; omega) (by show 0 + ns ≤ 700100 + (2663816 - ph); omega) (by rw [Nat.zero_add, Nat.zero_add]; exact Or.inr ⟨_, hp, by rw [if_neg (by decide)]⟩)
