def PB (loc : Nat → Nat) (val : Nat → va_E) (kc0 ns0 : Nat) : kT := fun rv d lo va kc ns => rv = some (.int 1) ∧ keepM loc val d lo va ∧ kc = kc0 ∧ ns = ns0
/-- what lies under the keys 48 to 75 is as it was -/
def keepL (loc : Nat → Nat) (val : Nat → va_E) (d : Nat → Prop) (lo : Nat → Nat) (va : Nat → va_E) : Prop := ∀ k, (Nat.ble 48 k && Nat.ble (k + 1) 76) = true → d k ∧ lo k = loc k ∧ va k = val k
theorem b76 {k : Nat} (h : (Nat.ble 48 k && Nat.ble (k + 1) 76) = true) : (Nat.ble 48 k && Nat.ble (k + 1) 77) = true ∧ k ≠ 76 := by
  rw [Bool.and_eq_true] at h
  have h1 := Nat.le_of_ble_eq_true h.1
  have h2 := Nat.le_of_ble_eq_true h.2
  refine ⟨?_, by omega⟩
  rw [Bool.and_eq_true]
  exact ⟨h.1, Nat.ble_eq_true_of_le (by omega)⟩
theorem keepL.rf {loc : Nat → Nat} {val : Nat → va_E} : keepL loc val (kd 77) loc val := fun k hk => keepM.rf k (b76 hk).1
theorem keepL.of {loc : Nat → Nat} {val : Nat → va_E} {d : Nat → Prop} {lo : Nat → Nat} {va : Nat → va_E} (h : keepM loc val d lo va) (e : va_E) : keepL loc val d lo (va_up va 76 e) := fun k hk => by
  obtain ⟨h1, h2, h3⟩ := h k (b76 hk).1
  exact ⟨h1, h2, kup_ne (b76 hk).2 h3⟩
def PL (cJ : ClassId) (loc : Nat → Nat) (val : Nat → va_E) (r : Int32) (f : Nat → Int64) (kc0 ns0 : Nat) : kT := fun rv d lo va kc ns => rv = some (.int r) ∧ keepL loc val d lo va ∧ d 76 ∧ lo 76 = loc 76 ∧ va 76 = .inl (cJ, 1, .inr (.inl f)) ∧ kc = kc0 ∧ ns = ns0
abbrev one1 : Nat → Int64 := vp_updL (fun _ => 0) (Int32.toNatClampNeg 0) 1
set_option maxHeartbeats 4000000 in
set_option maxRecDepth 100000 in
theorem c_L_begin_ok {l : Launch} {D : va_G} {A : Nat → Prop} {cI cB cZ cJ cN : ClassId} {loc : Nat → Nat} {val : Nat → va_E} (hv : ∀ k, Nat.ble (k + 1) 48 = true → val k = pcell cI cN loc k) (ho : val 76 = .inl (cJ, 1, .inr (.inl (fun _ => 0)))) (x y : Int32) (hM : kM l y_P_begin (Cond.code y_P_begin b_P_begin 4 (some FieldType.int) :: TT) (rmL 3) D CL (TY cI cB cZ cJ cN) A [.ref (loc 0), .int x, .int y] (kd 77) loc val (PB loc val 1 12)) : kM l y_L_begin (Cond.codeWith y_L_begin b_L_begin 5 (some FieldType.int) [(0, 10, 13, 13), (0, 10, 17, 15)] :: TT) (rmL 4) D CL (TY cI cB cZ cJ cN) A [.ref (loc 0), .int x, .int y, .ref (loc 76)] (kd 77) loc val (PL cJ loc val 0 one1 1 12) := by
  refine kMW_of (lv0 := [some (.ref (loc 0)), some (.int x), some (.int y), some (.ref (loc 76)), none]) (own := "ProsePagesLaw") (by decide) rfl (List.forall_mem_cons.mpr ⟨rfl, List.forall_mem_cons.mpr ⟨rfl, List.forall_mem_cons.mpr ⟨rfl, List.forall_mem_cons.mpr ⟨rfl, fun _ h => nomatch h⟩⟩⟩⟩) (Nat.le_of_ble_eq_true rfl) rfl (Nat.le_of_ble_eq_true rfl) (fun X hl hX htab hE => ?_)
  refine v_aload_n hX d_L_begin_0 rfl rfl ?_
  refine v_iconst (v := 0) hX d_L_begin_1 (by decide) ?_
  refine v_aload_n hX d_L_begin_2 rfl rfl ?_
  refine v_iload_n hX d_L_begin_3 rfl rfl ?_
  refine v_iload_n hX d_L_begin_4 rfl rfl ?_
  refine c_V hX 0 (rest := [.int 0, .ref (loc 76)]) hl hM k_267 k_268 k_269 k_1 k_270 rfl q_P_begin ⟨(Nat.le_of_ble_eq_true rfl), (Nat.le_of_ble_eq_true rfl)⟩ (kd_b rfl) rfl (hv 0 rfl) rfl rfl rfl rfl (Nat.le_of_ble_eq_true rfl) d_L_begin_5 ⟨(Nat.le_of_ble_eq_true rfl), (Nat.le_of_ble_eq_true rfl)⟩ (fun rv d2 lo2 va2 kc ns hp => ?_)
  obtain ⟨rfl, hk, rfl, rfl⟩ := hp
  obtain ⟨g1, g2, g3⟩ := hk 76 rfl
  show V X D CL A _ _ _ _ _ _ _ [.int 1, .int 0, .ref (loc 76)]
  refine v_i2l (v := 1) hX d_L_begin_8 (by decide) ?_
  refine v_last hX 76 3 g1 g2 (g3.trans ho) rfl (vpb (by decide)) d_L_begin_9 ?_
  refine v_goto hX d_L_begin_10 (tgt := 21) (by decide) ?_
  refine v_iconst (v := 0) hX d_L_begin_21 (by decide) ?_
  exact v_iret hX hE d_L_begin_22 (Nat.le_of_ble_eq_true rfl) (Nat.le_of_ble_eq_true rfl) ⟨rfl, keepL.of hk _, g1, g2, rfl, rfl, rfl⟩
set_option maxHeartbeats 4000000 in
set_option maxRecDepth 100000 in
theorem c_L_begin_bad {l : Launch} {D : va_G} {A : Nat → Prop} {cI cB cZ cJ cN : ClassId} {loc : Nat → Nat} {val : Nat → va_E} (hv : ∀ k, Nat.ble (k + 1) 48 = true → val k = pcell cI cN loc k) (ho : val 76 = .inl (cJ, 1, .inr (.inl (fun _ => 0)))) (x y : Int32) (hM : kMT l y_P_begin (Cond.code y_P_begin b_P_begin 4 (some FieldType.int) :: TT) (rmL 3) D CL (TY cI cB cZ cJ cN) A [.ref (loc 0), .int x, .int y] (kd 77) loc val "java/lang/IllegalArgumentException") : kM l y_L_begin (Cond.codeWith y_L_begin b_L_begin 5 (some FieldType.int) [(0, 10, 13, 13), (0, 10, 17, 15)] :: TT) (rmL 4) D CL (TY cI cB cZ cJ cN) A [.ref (loc 0), .int x, .int y, .ref (loc 76)] (kd 77) loc val (PL cJ loc val 2 (fun _ => 0) 300 600000) := by
  refine kMW_of (lv0 := [some (.ref (loc 0)), some (.int x), some (.int y), some (.ref (loc 76)), none]) (own := "ProsePagesLaw") (by decide) rfl (List.forall_mem_cons.mpr ⟨rfl, List.forall_mem_cons.mpr ⟨rfl, List.forall_mem_cons.mpr ⟨rfl, List.forall_mem_cons.mpr ⟨rfl, fun _ h => nomatch h⟩⟩⟩⟩) (Nat.le_of_ble_eq_true rfl) rfl (Nat.le_of_ble_eq_true rfl) (fun X hl hX htab hE => ?_)
  refine v_aload_n hX d_L_begin_0 rfl rfl ?_
  refine v_iconst (v := 0) hX d_L_begin_1 (by decide) ?_
  refine v_aload_n hX d_L_begin_2 rfl rfl ?_
  refine v_iload_n hX d_L_begin_3 rfl rfl ?_
  refine v_iload_n hX d_L_begin_4 rfl rfl ?_
  refine c_VT hX 0 (rest := [.int 0, .ref (loc 76)]) hl hM (xCatch2 hX htab (by decide) (by decide) k_265 (nf_args (by decide) (hX.2.2.2.2.2.2.2.2.2.now.1 _ (by decide)) _) (by decide) (by decide) k_266 (nf_args (by decide) (hX.2.2.2.2.2.2.2.2.2.now.1 _ (by decide)) _)) k_267 k_268 k_269 k_1 k_270 q_P_begin ⟨(Nat.le_of_ble_eq_true rfl), (Nat.le_of_ble_eq_true rfl)⟩ (kd_b rfl) rfl (hv 0 rfl) rfl rfl rfl rfl (Nat.le_of_ble_eq_true rfl) d_L_begin_5 ⟨(Nat.le_of_ble_eq_true rfl), (Nat.le_of_ble_eq_true rfl)⟩ (fun q => ?_)
  refine v_astore (lv' := [some (.ref (loc 0)), some (.int x), some (.int y), some (.ref (loc 76)), some (.ref q)]) hX d_L_begin_17 (Nat.le_of_ble_eq_true rfl) rfl ?_
  refine v_iconst (v := 2) hX d_L_begin_19 (by decide) ?_
  exact v_iret hX hE d_L_begin_20 (Nat.le_of_ble_eq_true rfl) (Nat.le_of_ble_eq_true rfl) ⟨rfl, keepL.rf, kd_b rfl, rfl, ho, rfl, rfl⟩
set_option maxHeartbeats 4000000 in
set_option maxRecDepth 100000 in
theorem c_L_say_bad {l : Launch} {D : va_G} {A : Nat → Prop} {cI cB cZ cJ cN : ClassId} {loc : Nat → Nat} {val : Nat → va_E} (hv : ∀ k, Nat.ble (k + 1) 48 = true → val k = pcell cI cN loc k) (ho : val 76 = .inl (cJ, 1, .inr (.inl (fun _ => 0)))) (x0 x1 x2 x3 x4 : Int32) (hM : kMT l y_P_say (Cond.code y_P_say b_P_say 7 (some FieldType.int) :: TT) (rmL 3) D CL (TY cI cB cZ cJ cN) A [.ref (loc 0), .int x0, .int x1, .int x2, .int x3, .int x4] (kd 77) loc val "java/lang/IllegalArgumentException") : kM l y_L_say (Cond.codeWith y_L_say b_L_say 8 (some FieldType.int) [(0, 16, 19, 15), (0, 16, 23, 13)] :: TT) (rmL 4) D CL (TY cI cB cZ cJ cN) A [.ref (loc 0), .int x0, .int x1, .int x2, .int x3, .int x4, .ref (loc 76)] (kd 77) loc val (PL cJ loc val 1 (fun _ => 0) 300 600000) := by
  refine kMW_of (lv0 := [some (.ref (loc 0)), some (.int x0), some (.int x1), some (.int x2), some (.int x3), some (.int x4), some (.ref (loc 76)), none]) (own := "ProsePagesLaw") (by decide) rfl (List.forall_mem_cons.mpr ⟨rfl, List.forall_mem_cons.mpr ⟨rfl, List.forall_mem_cons.mpr ⟨rfl, List.forall_mem_cons.mpr ⟨rfl, List.forall_mem_cons.mpr ⟨rfl, List.forall_mem_cons.mpr ⟨rfl, List.forall_mem_cons.mpr ⟨rfl, fun _ h => nomatch h⟩⟩⟩⟩⟩⟩⟩) (Nat.le_of_ble_eq_true rfl) rfl (Nat.le_of_ble_eq_true rfl) (fun X hl hX htab hE => ?_)
  refine v_aload hX d_L_say_0 rfl ?_
  refine v_iconst (v := 0) hX d_L_say_2 (by decide) ?_
  refine v_aload_n hX d_L_say_3 rfl rfl ?_
  refine v_iload_n hX d_L_say_4 rfl rfl ?_
  refine v_iload_n hX d_L_say_5 rfl rfl ?_
  refine v_iload_n hX d_L_say_6 rfl rfl ?_
  refine v_iload hX d_L_say_7 rfl ?_
  refine v_iload hX d_L_say_9 rfl ?_
  refine c_VT hX 0 (rest := [.int 0, .ref (loc 76)]) hl hM (xCatch1 hX htab (by decide) (by decide) k_266 (nf_args (by decide) (hX.2.2.2.2.2.2.2.2.2.now.1 _ (by decide)) _)) k_407 k_408 k_409 k_1 k_410 q_P_say ⟨(Nat.le_of_ble_eq_true rfl), (Nat.le_of_ble_eq_true rfl)⟩ (kd_b rfl) rfl (hv 0 rfl) rfl rfl rfl rfl (Nat.le_of_ble_eq_true rfl) d_L_say_11 ⟨(Nat.le_of_ble_eq_true rfl), (Nat.le_of_ble_eq_true rfl)⟩ (fun q => ?_)
  refine v_astore (lv' := [some (.ref (loc 0)), some (.int x0), some (.int x1), some (.int x2), some (.int x3), some (.int x4), some (.ref (loc 76)), some (.ref q)]) hX d_L_say_19 (Nat.le_of_ble_eq_true rfl) rfl ?_
  refine v_iconst (v := 1) hX d_L_say_21 (by decide) ?_
  exact v_iret hX hE d_L_say_22 (Nat.le_of_ble_eq_true rfl) (Nat.le_of_ble_eq_true rfl) ⟨rfl, keepL.rf, kd_b rfl, rfl, ho, rfl, rfl⟩
set_option maxHeartbeats 4000000 in
set_option maxRecDepth 100000 in
theorem c_L_pages_ok {l : Launch} {D : va_G} {A : Nat → Prop} {cI cB cZ cJ cN : ClassId} {loc : Nat → Nat} {val : Nat → va_E} (hv : ∀ k, Nat.ble (k + 1) 48 = true → val k = pcell cI cN loc k) (ho : val 76 = .inl (cJ, 1, .inr (.inl (fun _ => 0)))) (x y : Int32) (hM : kM l y_P_pages (Cond.code y_P_pages b_P_pages 4 (some FieldType.int) :: TT) (rmL 6) D CL (TY cI cB cZ cJ cN) A [.ref (loc 0), .int x, .int y] (kd 77) loc val (PB loc val 0 0)) : kM l y_L_pages (Cond.codeWith y_L_pages b_L_pages 5 (some FieldType.int) [(0, 10, 13, 15), (0, 10, 17, 13)] :: TT) (rmL 7) D CL (TY cI cB cZ cJ cN) A [.ref (loc 0), .int x, .int y, .ref (loc 76)] (kd 77) loc val (PL cJ loc val 0 one1 0 0) := by
  refine kMW_of (lv0 := [some (.ref (loc 0)), some (.int x), some (.int y), some (.ref (loc 76)), none]) (own := "ProsePagesLaw") (by decide) rfl (List.forall_mem_cons.mpr ⟨rfl, List.forall_mem_cons.mpr ⟨rfl, List.forall_mem_cons.mpr ⟨rfl, List.forall_mem_cons.mpr ⟨rfl, fun _ h => nomatch h⟩⟩⟩⟩) (Nat.le_of_ble_eq_true rfl) rfl (Nat.le_of_ble_eq_true rfl) (fun X hl hX htab hE => ?_)
  refine v_aload_n hX d_L_pages_0 rfl rfl ?_
  refine v_iconst (v := 0) hX d_L_pages_1 (by decide) ?_
  refine v_aload_n hX d_L_pages_2 rfl rfl ?_
  refine v_iload_n hX d_L_pages_3 rfl rfl ?_
  refine v_iload_n hX d_L_pages_4 rfl rfl ?_
  refine c_V hX 0 (rest := [.int 0, .ref (loc 76)]) hl hM k_420 k_421 k_422 k_1 k_423 rfl q_P_pages ⟨(Nat.le_of_ble_eq_true rfl), (Nat.le_of_ble_eq_true rfl)⟩ (kd_b rfl) rfl (hv 0 rfl) rfl rfl rfl rfl (Nat.le_of_ble_eq_true rfl) d_L_pages_5 ⟨(Nat.le_of_ble_eq_true rfl), (Nat.le_of_ble_eq_true rfl)⟩ (fun rv d2 lo2 va2 kc ns hp => ?_)
  obtain ⟨rfl, hk, rfl, rfl⟩ := hp
  obtain ⟨g1, g2, g3⟩ := hk 76 rfl
  show V X D CL A _ _ _ _ _ _ _ [.int 1, .int 0, .ref (loc 76)]
  refine v_i2l (v := 1) hX d_L_pages_8 (by decide) ?_
  refine v_last hX 76 3 g1 g2 (g3.trans ho) rfl (vpb (by decide)) d_L_pages_9 ?_
  refine v_goto hX d_L_pages_10 (tgt := 21) (by decide) ?_
  refine v_iconst (v := 0) hX d_L_pages_21 (by decide) ?_
  exact v_iret hX hE d_L_pages_22 (Nat.le_of_ble_eq_true rfl) (Nat.le_of_ble_eq_true rfl) ⟨rfl, keepL.of hk _, g1, g2, rfl, rfl, rfl⟩
set_option maxHeartbeats 4000000 in
set_option maxRecDepth 100000 in
theorem c_L_pages_bad {l : Launch} {D : va_G} {A : Nat → Prop} {cI cB cZ cJ cN : ClassId} {loc : Nat → Nat} {val : Nat → va_E} (hv : ∀ k, Nat.ble (k + 1) 48 = true → val k = pcell cI cN loc k) (ho : val 76 = .inl (cJ, 1, .inr (.inl (fun _ => 0)))) (x y : Int32) (hM : kMT l y_P_pages (Cond.code y_P_pages b_P_pages 4 (some FieldType.int) :: TT) (rmL 3) D CL (TY cI cB cZ cJ cN) A [.ref (loc 0), .int x, .int y] (kd 77) loc val "java/lang/IllegalArgumentException") : kM l y_L_pages (Cond.codeWith y_L_pages b_L_pages 5 (some FieldType.int) [(0, 10, 13, 15), (0, 10, 17, 13)] :: TT) (rmL 7) D CL (TY cI cB cZ cJ cN) A [.ref (loc 0), .int x, .int y, .ref (loc 76)] (kd 77) loc val (PL cJ loc val 1 (fun _ => 0) 300 600000) := by
  refine kMW_of (lv0 := [some (.ref (loc 0)), some (.int x), some (.int y), some (.ref (loc 76)), none]) (own := "ProsePagesLaw") (by decide) rfl (List.forall_mem_cons.mpr ⟨rfl, List.forall_mem_cons.mpr ⟨rfl, List.forall_mem_cons.mpr ⟨rfl, List.forall_mem_cons.mpr ⟨rfl, fun _ h => nomatch h⟩⟩⟩⟩) (Nat.le_of_ble_eq_true rfl) rfl (Nat.le_of_ble_eq_true rfl) (fun X hl hX htab hE => ?_)
  refine v_aload_n hX d_L_pages_0 rfl rfl ?_
  refine v_iconst (v := 0) hX d_L_pages_1 (by decide) ?_
  refine v_aload_n hX d_L_pages_2 rfl rfl ?_
  refine v_iload_n hX d_L_pages_3 rfl rfl ?_
  refine v_iload_n hX d_L_pages_4 rfl rfl ?_
  refine c_VT hX 0 (rest := [.int 0, .ref (loc 76)]) hl hM (xCatch1 hX htab (by decide) (by decide) k_266 (nf_args (by decide) (hX.2.2.2.2.2.2.2.2.2.now.1 _ (by decide)) _)) k_420 k_421 k_422 k_1 k_423 q_P_pages ⟨(Nat.le_of_ble_eq_true rfl), (Nat.le_of_ble_eq_true rfl)⟩ (kd_b rfl) rfl (hv 0 rfl) rfl rfl rfl rfl (Nat.le_of_ble_eq_true rfl) d_L_pages_5 ⟨(Nat.le_of_ble_eq_true rfl), (Nat.le_of_ble_eq_true rfl)⟩ (fun q => ?_)
  refine v_astore (lv' := [some (.ref (loc 0)), some (.int x), some (.int y), some (.ref (loc 76)), some (.ref q)]) hX d_L_pages_13 (Nat.le_of_ble_eq_true rfl) rfl ?_
  refine v_iconst (v := 1) hX d_L_pages_15 (by decide) ?_
  exact v_iret hX hE d_L_pages_16 (Nat.le_of_ble_eq_true rfl) (Nat.le_of_ble_eq_true rfl) ⟨rfl, keepL.rf, kd_b rfl, rfl, ho, rfl, rfl⟩
