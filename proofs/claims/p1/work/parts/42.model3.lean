set_option maxHeartbeats 4000000 in
set_option maxRecDepth 100000 in
theorem c_M_cell {l : Launch} {D : va_G} {A : Nat → Prop} {cI cB cZ cJ cN : ClassId} {dom : Nat → Prop} (hd : ∀ k, (Nat.ble 48 k && Nat.ble (k + 1) 77) = true → dom k) {loc : Nat → Nat} {val : Nat → va_E} (hm : ∀ k, (Nat.ble 48 k && Nat.ble (k + 1) 76) = true → val k = mcell cI cB cZ loc k) (x0 x1 x2 : Int32) : kM l y_M_cell (Cond.code y_M_cell b_M_cell 6 (some FieldType.int) :: TT) (rmL 1) D CL (TY cI cB cZ cJ cN) A [.ref (loc 48), .int x0, .int x1, .int x2] (dom) loc val (fun rv d lo va kc ns => rv = some (.int (-1)) ∧ (∃ xs9, va 48 = .inr (5, .int 0 :: xs9)) ∧ keepO loc val d lo va ∧ kc = 0 ∧ ns = 0) := by
  refine kM_of (lv0 := [some (.ref (loc 48)), some (.int x0), some (.int x1), some (.int x2), none, none]) (own := "ProsePagesModel") (by decide) rfl (List.forall_mem_cons.mpr ⟨rfl, List.forall_mem_cons.mpr ⟨rfl, List.forall_mem_cons.mpr ⟨rfl, List.forall_mem_cons.mpr ⟨rfl, fun _ h => nomatch h⟩⟩⟩⟩) (Nat.le_of_ble_eq_true rfl) rfl (Nat.le_of_ble_eq_true rfl) (fun X hl hX hE hin0 => ?_)
  refine v_aload_n hX d_M_cell_0 rfl rfl ?_
  refine v_iconst (v := 0) hX d_M_cell_1 (by decide) ?_
  refine v_putE hX 48 (fs2 := [.int 0, .ref (loc 49), .ref (loc 50), .ref (loc 51), .ref (loc 52), .ref (loc 53), .ref (loc 54), .ref (loc 55), .ref (loc 56), .int 1, .int 0, .int 0, .ref (loc 57), .ref (loc 58), .ref (loc 59), .ref (loc 60), .ref (loc 61), .ref (loc 62), .int 0, .int 0, .int 0, .int 0, .int 0, .int 0, .ref (loc 63), .ref (loc 64), .ref (loc 65), .ref (loc 66), .ref (loc 67), .ref (loc 68), .ref (loc 69), .ref (loc 70), .ref (loc 71), .ref (loc 72), .int 0, .ref (loc 73), .ref (loc 74), .ref (loc 75), .int 0, .int 0, .int 0, .int 0, .int 0, .int 0, .int 0]) inT5 tyX5 tyX5_ok nmX5 (hd 48 rfl) rfl (hm 48 rfl) rfl 0 (by decide) k_585 rfl rfl rfl rfl rfl (Nat.le_of_ble_eq_true rfl) d_M_cell_2 rfl ?_
  refine v_iload_n hX d_M_cell_5 rfl rfl ?_
  refine v_if_lt hX d_M_cell_6 (tgt := 41) (by decide) (fun c6 => ?_) (fun c6 => ?_)
  · refine v_iconst (v := (-1)) hX d_M_cell_41 (by decide) ?_
    exact v_iret hX hE d_M_cell_42 (Nat.le_of_ble_eq_true rfl) (Nat.le_of_ble_eq_true rfl) ⟨rfl, ⟨_, rfl⟩, ⟨hd 48 rfl, rfl, hd 76 rfl, rfl, rfl⟩, rfl, rfl⟩
  · refine v_iload_n hX d_M_cell_9 rfl rfl ?_
    refine v_aload_n hX d_M_cell_10 rfl rfl ?_
    refine v_get hX 48 (v := .int 0) inT5 (hd 48 rfl) rfl rfl rfl 19 (by decide) k_604 rfl rfl d_M_cell_11 ?_
    refine v_icmp_ge hX d_M_cell_14 (tgt := 41) (by decide) (fun _ => ?_) (fun c => absurd (Int32.not_lt.mp c6) c)
    refine v_iconst (v := (-1)) hX d_M_cell_41 (by decide) ?_
    exact v_iret hX hE d_M_cell_42 (Nat.le_of_ble_eq_true rfl) (Nat.le_of_ble_eq_true rfl) ⟨rfl, ⟨_, rfl⟩, ⟨hd 48 rfl, rfl, hd 76 rfl, rfl, rfl⟩, rfl, rfl⟩
set_option maxHeartbeats 4000000 in
set_option maxRecDepth 100000 in
theorem c_M_page {l : Launch} {D : va_G} {A : Nat → Prop} {cI cB cZ cJ cN : ClassId} {dom : Nat → Prop} (hd : ∀ k, (Nat.ble 48 k && Nat.ble (k + 1) 77) = true → dom k) {loc : Nat → Nat} {val : Nat → va_E} (hm : ∀ k, (Nat.ble 48 k && Nat.ble (k + 1) 76) = true → val k = mcell cI cB cZ loc k) (x0 x1 : Int32) : kM l y_M_page (Cond.code y_M_page b_M_page 6 (some FieldType.int) :: TT) (rmL 1) D CL (TY cI cB cZ cJ cN) A [.ref (loc 48), .int x0, .int x1] (dom) loc val (fun rv d lo va kc ns => rv = some (.int (-1)) ∧ (∃ xs9, va 48 = .inr (5, .int 0 :: xs9)) ∧ keepO loc val d lo va ∧ kc = 0 ∧ ns = 0) := by
  refine kM_of (lv0 := [some (.ref (loc 48)), some (.int x0), some (.int x1), none, none, none]) (own := "ProsePagesModel") (by decide) rfl (List.forall_mem_cons.mpr ⟨rfl, List.forall_mem_cons.mpr ⟨rfl, List.forall_mem_cons.mpr ⟨rfl, fun _ h => nomatch h⟩⟩⟩) (Nat.le_of_ble_eq_true rfl) rfl (Nat.le_of_ble_eq_true rfl) (fun X hl hX hE hin0 => ?_)
  refine v_aload_n hX d_M_page_0 rfl rfl ?_
  refine v_iconst (v := 0) hX d_M_page_1 (by decide) ?_
  refine v_putE hX 48 (fs2 := [.int 0, .ref (loc 49), .ref (loc 50), .ref (loc 51), .ref (loc 52), .ref (loc 53), .ref (loc 54), .ref (loc 55), .ref (loc 56), .int 1, .int 0, .int 0, .ref (loc 57), .ref (loc 58), .ref (loc 59), .ref (loc 60), .ref (loc 61), .ref (loc 62), .int 0, .int 0, .int 0, .int 0, .int 0, .int 0, .ref (loc 63), .ref (loc 64), .ref (loc 65), .ref (loc 66), .ref (loc 67), .ref (loc 68), .ref (loc 69), .ref (loc 70), .ref (loc 71), .ref (loc 72), .int 0, .ref (loc 73), .ref (loc 74), .ref (loc 75), .int 0, .int 0, .int 0, .int 0, .int 0, .int 0, .int 0]) inT5 tyX5 tyX5_ok nmX5 (hd 48 rfl) rfl (hm 48 rfl) rfl 0 (by decide) k_585 rfl rfl rfl rfl rfl (Nat.le_of_ble_eq_true rfl) d_M_page_2 rfl ?_
  refine v_iload_n hX d_M_page_5 rfl rfl ?_
  refine v_if_lt hX d_M_page_6 (tgt := 26) (by decide) (fun c6 => ?_) (fun c6 => ?_)
  · refine v_iconst (v := (-1)) hX d_M_page_26 (by decide) ?_
    exact v_iret hX hE d_M_page_27 (Nat.le_of_ble_eq_true rfl) (Nat.le_of_ble_eq_true rfl) ⟨rfl, ⟨_, rfl⟩, ⟨hd 48 rfl, rfl, hd 76 rfl, rfl, rfl⟩, rfl, rfl⟩
  · refine v_iload_n hX d_M_page_9 rfl rfl ?_
    refine v_aload_n hX d_M_page_10 rfl rfl ?_
    refine v_get hX 48 (v := .int 0) inT5 (hd 48 rfl) rfl rfl rfl 19 (by decide) k_604 rfl rfl d_M_page_11 ?_
    refine v_icmp_ge hX d_M_page_14 (tgt := 26) (by decide) (fun _ => ?_) (fun c => absurd (Int32.not_lt.mp c6) c)
    refine v_iconst (v := (-1)) hX d_M_page_26 (by decide) ?_
    exact v_iret hX hE d_M_page_27 (Nat.le_of_ble_eq_true rfl) (Nat.le_of_ble_eq_true rfl) ⟨rfl, ⟨_, rfl⟩, ⟨hd 48 rfl, rfl, hd 76 rfl, rfl, rfl⟩, rfl, rfl⟩
set_option maxHeartbeats 4000000 in
set_option maxRecDepth 100000 in
theorem c_M_line {l : Launch} {D : va_G} {A : Nat → Prop} {cI cB cZ cJ cN : ClassId} {dom : Nat → Prop} (hd : ∀ k, (Nat.ble 48 k && Nat.ble (k + 1) 77) = true → dom k) {loc : Nat → Nat} {val : Nat → va_E} (hm : ∀ k, (Nat.ble 48 k && Nat.ble (k + 1) 76) = true → val k = mcell cI cB cZ loc k) (x0 x1 : Int32) : kM l y_M_line (Cond.code y_M_line b_M_line 3 (some FieldType.int) :: TT) (rmL 1) D CL (TY cI cB cZ cJ cN) A [.ref (loc 48), .int x0, .int x1] (dom) loc val (fun rv d lo va kc ns => rv = some (.int (-1)) ∧ (∃ xs9, va 48 = .inr (5, .int 0 :: xs9)) ∧ keepO loc val d lo va ∧ kc = 0 ∧ ns = 0) := by
  refine kM_of (lv0 := [some (.ref (loc 48)), some (.int x0), some (.int x1)]) (own := "ProsePagesModel") (by decide) rfl (List.forall_mem_cons.mpr ⟨rfl, List.forall_mem_cons.mpr ⟨rfl, List.forall_mem_cons.mpr ⟨rfl, fun _ h => nomatch h⟩⟩⟩) (Nat.le_of_ble_eq_true rfl) rfl (Nat.le_of_ble_eq_true rfl) (fun X hl hX hE hin0 => ?_)
  refine v_aload_n hX d_M_line_0 rfl rfl ?_
  refine v_iconst (v := 0) hX d_M_line_1 (by decide) ?_
  refine v_putE hX 48 (fs2 := [.int 0, .ref (loc 49), .ref (loc 50), .ref (loc 51), .ref (loc 52), .ref (loc 53), .ref (loc 54), .ref (loc 55), .ref (loc 56), .int 1, .int 0, .int 0, .ref (loc 57), .ref (loc 58), .ref (loc 59), .ref (loc 60), .ref (loc 61), .ref (loc 62), .int 0, .int 0, .int 0, .int 0, .int 0, .int 0, .ref (loc 63), .ref (loc 64), .ref (loc 65), .ref (loc 66), .ref (loc 67), .ref (loc 68), .ref (loc 69), .ref (loc 70), .ref (loc 71), .ref (loc 72), .int 0, .ref (loc 73), .ref (loc 74), .ref (loc 75), .int 0, .int 0, .int 0, .int 0, .int 0, .int 0, .int 0]) inT5 tyX5 tyX5_ok nmX5 (hd 48 rfl) rfl (hm 48 rfl) rfl 0 (by decide) k_585 rfl rfl rfl rfl rfl (Nat.le_of_ble_eq_true rfl) d_M_line_2 rfl ?_
  refine v_iload_n hX d_M_line_5 rfl rfl ?_
  refine v_if_lt hX d_M_line_6 (tgt := 17) (by decide) (fun c6 => ?_) (fun c6 => ?_)
  · refine v_iconst (v := (-1)) hX d_M_line_17 (by decide) ?_
    exact v_iret hX hE d_M_line_18 (Nat.le_of_ble_eq_true rfl) (Nat.le_of_ble_eq_true rfl) ⟨rfl, ⟨_, rfl⟩, ⟨hd 48 rfl, rfl, hd 76 rfl, rfl, rfl⟩, rfl, rfl⟩
  · refine v_iload_n hX d_M_line_9 rfl rfl ?_
    refine v_aload_n hX d_M_line_10 rfl rfl ?_
    refine v_get hX 48 (v := .int 0) inT5 (hd 48 rfl) rfl rfl rfl 18 (by decide) k_603 rfl rfl d_M_line_11 ?_
    refine v_icmp_lt hX d_M_line_14 (tgt := 19) (by decide) (fun c => absurd c (c6)) (fun _ => ?_)
    refine v_iconst (v := (-1)) hX d_M_line_17 (by decide) ?_
    exact v_iret hX hE d_M_line_18 (Nat.le_of_ble_eq_true rfl) (Nat.le_of_ble_eq_true rfl) ⟨rfl, ⟨_, rfl⟩, ⟨hd 48 rfl, rfl, hd 76 rfl, rfl, rfl⟩, rfl, rfl⟩
set_option maxHeartbeats 4000000 in
set_option maxRecDepth 100000 in
theorem c_M_find {l : Launch} {D : va_G} {A : Nat → Prop} {cI cB cZ cJ cN : ClassId} {dom : Nat → Prop} (hd : ∀ k, (Nat.ble 48 k && Nat.ble (k + 1) 77) = true → dom k) {loc : Nat → Nat} {val : Nat → va_E} (hm : ∀ k, (Nat.ble 48 k && Nat.ble (k + 1) 76) = true → val k = mcell cI cB cZ loc k) (x0 : Int32) : kM l y_M_find (Cond.code y_M_find b_M_find 2 (some FieldType.int) :: TT) (rmL 1) D CL (TY cI cB cZ cJ cN) A [.ref (loc 48), .int x0] (dom) loc val (fun rv d lo va kc ns => rv = some (.int (-1)) ∧ (∃ xs9, va 48 = .inr (5, .int 0 :: xs9)) ∧ keepO loc val d lo va ∧ kc = 0 ∧ ns = 0) := by
  refine kM_of (lv0 := [some (.ref (loc 48)), some (.int x0)]) (own := "ProsePagesModel") (by decide) rfl (List.forall_mem_cons.mpr ⟨rfl, List.forall_mem_cons.mpr ⟨rfl, fun _ h => nomatch h⟩⟩) (Nat.le_of_ble_eq_true rfl) rfl (Nat.le_of_ble_eq_true rfl) (fun X hl hX hE hin0 => ?_)
  refine v_aload_n hX d_M_find_0 rfl rfl ?_
  refine v_iconst (v := 0) hX d_M_find_1 (by decide) ?_
  refine v_putE hX 48 (fs2 := [.int 0, .ref (loc 49), .ref (loc 50), .ref (loc 51), .ref (loc 52), .ref (loc 53), .ref (loc 54), .ref (loc 55), .ref (loc 56), .int 1, .int 0, .int 0, .ref (loc 57), .ref (loc 58), .ref (loc 59), .ref (loc 60), .ref (loc 61), .ref (loc 62), .int 0, .int 0, .int 0, .int 0, .int 0, .int 0, .ref (loc 63), .ref (loc 64), .ref (loc 65), .ref (loc 66), .ref (loc 67), .ref (loc 68), .ref (loc 69), .ref (loc 70), .ref (loc 71), .ref (loc 72), .int 0, .ref (loc 73), .ref (loc 74), .ref (loc 75), .int 0, .int 0, .int 0, .int 0, .int 0, .int 0, .int 0]) inT5 tyX5 tyX5_ok nmX5 (hd 48 rfl) rfl (hm 48 rfl) rfl 0 (by decide) k_585 rfl rfl rfl rfl rfl (Nat.le_of_ble_eq_true rfl) d_M_find_2 rfl ?_
  refine v_iload_n hX d_M_find_5 rfl rfl ?_
  refine v_if_lt hX d_M_find_6 (tgt := 26) (by decide) (fun c6 => ?_) (fun c6 => ?_)
  · refine v_iconst (v := (-1)) hX d_M_find_26 (by decide) ?_
    exact v_iret hX hE d_M_find_27 (Nat.le_of_ble_eq_true rfl) (Nat.le_of_ble_eq_true rfl) ⟨rfl, ⟨_, rfl⟩, ⟨hd 48 rfl, rfl, hd 76 rfl, rfl, rfl⟩, rfl, rfl⟩
  · refine v_iload_n hX d_M_find_9 rfl rfl ?_
    refine v_aload_n hX d_M_find_10 rfl rfl ?_
    refine v_get hX 48 (v := .int 0) inT5 (hd 48 rfl) rfl rfl rfl 22 (by decide) k_607 rfl rfl d_M_find_11 ?_
    refine v_icmp_ge hX d_M_find_14 (tgt := 26) (by decide) (fun _ => ?_) (fun c => absurd (Int32.not_lt.mp c6) c)
    refine v_iconst (v := (-1)) hX d_M_find_26 (by decide) ?_
    exact v_iret hX hE d_M_find_27 (Nat.le_of_ble_eq_true rfl) (Nat.le_of_ble_eq_true rfl) ⟨rfl, ⟨_, rfl⟩, ⟨hd 48 rfl, rfl, hd 76 rfl, rfl, rfl⟩, rfl, rfl⟩
set_option maxHeartbeats 4000000 in
set_option maxRecDepth 100000 in
theorem c_M_node_neg {l : Launch} {D : va_G} {A : Nat → Prop} {cI cB cZ cJ cN : ClassId} {dom : Nat → Prop} (hd : ∀ k, (Nat.ble 48 k && Nat.ble (k + 1) 77) = true → dom k) {loc : Nat → Nat} {val : Nat → va_E} (hm : ∀ k, (Nat.ble 48 k && Nat.ble (k + 1) 76) = true → val k = mcell cI cB cZ loc k) (x y : Int32) (h : x < 0) : kM l y_M_node (Cond.code y_M_node b_M_node 3 (some FieldType.int) :: TT) (rmL 1) D CL (TY cI cB cZ cJ cN) A [.ref (loc 48), .int x, .int y] (dom) loc val (fun rv d lo va kc ns => rv = some (.int (-1)) ∧ (∃ xs9, va 48 = .inr (5, .int 0 :: xs9)) ∧ keepO loc val d lo va ∧ kc = 0 ∧ ns = 0) := by
  refine kM_of (lv0 := [some (.ref (loc 48)), some (.int x), some (.int y)]) (own := "ProsePagesModel") (by decide) rfl (List.forall_mem_cons.mpr ⟨rfl, List.forall_mem_cons.mpr ⟨rfl, List.forall_mem_cons.mpr ⟨rfl, fun _ h => nomatch h⟩⟩⟩) (Nat.le_of_ble_eq_true rfl) rfl (Nat.le_of_ble_eq_true rfl) (fun X hl hX hE hin0 => ?_)
  refine v_aload_n hX d_M_node_0 rfl rfl ?_
  refine v_iconst (v := 0) hX d_M_node_1 (by decide) ?_
  refine v_putE hX 48 (fs2 := [.int 0, .ref (loc 49), .ref (loc 50), .ref (loc 51), .ref (loc 52), .ref (loc 53), .ref (loc 54), .ref (loc 55), .ref (loc 56), .int 1, .int 0, .int 0, .ref (loc 57), .ref (loc 58), .ref (loc 59), .ref (loc 60), .ref (loc 61), .ref (loc 62), .int 0, .int 0, .int 0, .int 0, .int 0, .int 0, .ref (loc 63), .ref (loc 64), .ref (loc 65), .ref (loc 66), .ref (loc 67), .ref (loc 68), .ref (loc 69), .ref (loc 70), .ref (loc 71), .ref (loc 72), .int 0, .ref (loc 73), .ref (loc 74), .ref (loc 75), .int 0, .int 0, .int 0, .int 0, .int 0, .int 0, .int 0]) inT5 tyX5 tyX5_ok nmX5 (hd 48 rfl) rfl (hm 48 rfl) rfl 0 (by decide) k_585 rfl rfl rfl rfl rfl (Nat.le_of_ble_eq_true rfl) d_M_node_2 rfl ?_
  refine v_iload_n hX d_M_node_5 rfl rfl ?_
  refine v_if_lt hX d_M_node_6 (tgt := 17) (by decide) (fun _ => ?_) (fun c => absurd (h) c)
  refine v_iconst (v := (-1)) hX d_M_node_17 (by decide) ?_
  exact v_iret hX hE d_M_node_18 (Nat.le_of_ble_eq_true rfl) (Nat.le_of_ble_eq_true rfl) ⟨rfl, ⟨_, rfl⟩, ⟨hd 48 rfl, rfl, hd 76 rfl, rfl, rfl⟩, rfl, rfl⟩
set_option maxHeartbeats 4000000 in
set_option maxRecDepth 100000 in
theorem c_M_node_ge {l : Launch} {D : va_G} {A : Nat → Prop} {cI cB cZ cJ cN : ClassId} {dom : Nat → Prop} (hd : ∀ k, (Nat.ble 48 k && Nat.ble (k + 1) 77) = true → dom k) {loc : Nat → Nat} {val : Nat → va_E} (hm : ∀ k, (Nat.ble 48 k && Nat.ble (k + 1) 76) = true → val k = mcell cI cB cZ loc k) (x y : Int32) (h0 : ¬ x < 0) (h : 1 ≤ x) : kM l y_M_node (Cond.code y_M_node b_M_node 3 (some FieldType.int) :: TT) (rmL 1) D CL (TY cI cB cZ cJ cN) A [.ref (loc 48), .int x, .int y] (dom) loc val (fun rv d lo va kc ns => rv = some (.int (-1)) ∧ (∃ xs9, va 48 = .inr (5, .int 0 :: xs9)) ∧ keepO loc val d lo va ∧ kc = 0 ∧ ns = 0) := by
  refine kM_of (lv0 := [some (.ref (loc 48)), some (.int x), some (.int y)]) (own := "ProsePagesModel") (by decide) rfl (List.forall_mem_cons.mpr ⟨rfl, List.forall_mem_cons.mpr ⟨rfl, List.forall_mem_cons.mpr ⟨rfl, fun _ h => nomatch h⟩⟩⟩) (Nat.le_of_ble_eq_true rfl) rfl (Nat.le_of_ble_eq_true rfl) (fun X hl hX hE hin0 => ?_)
  refine v_aload_n hX d_M_node_0 rfl rfl ?_
  refine v_iconst (v := 0) hX d_M_node_1 (by decide) ?_
  refine v_putE hX 48 (fs2 := [.int 0, .ref (loc 49), .ref (loc 50), .ref (loc 51), .ref (loc 52), .ref (loc 53), .ref (loc 54), .ref (loc 55), .ref (loc 56), .int 1, .int 0, .int 0, .ref (loc 57), .ref (loc 58), .ref (loc 59), .ref (loc 60), .ref (loc 61), .ref (loc 62), .int 0, .int 0, .int 0, .int 0, .int 0, .int 0, .ref (loc 63), .ref (loc 64), .ref (loc 65), .ref (loc 66), .ref (loc 67), .ref (loc 68), .ref (loc 69), .ref (loc 70), .ref (loc 71), .ref (loc 72), .int 0, .ref (loc 73), .ref (loc 74), .ref (loc 75), .int 0, .int 0, .int 0, .int 0, .int 0, .int 0, .int 0]) inT5 tyX5 tyX5_ok nmX5 (hd 48 rfl) rfl (hm 48 rfl) rfl 0 (by decide) k_585 rfl rfl rfl rfl rfl (Nat.le_of_ble_eq_true rfl) d_M_node_2 rfl ?_
  refine v_iload_n hX d_M_node_5 rfl rfl ?_
  refine v_if_lt hX d_M_node_6 (tgt := 17) (by decide) (fun c => absurd c (h0)) (fun _ => ?_)
  refine v_iload_n hX d_M_node_9 rfl rfl ?_
  refine v_aload_n hX d_M_node_10 rfl rfl ?_
  refine v_get hX 48 (v := .int 1) inT5 (hd 48 rfl) rfl rfl rfl 9 (by decide) k_594 rfl rfl d_M_node_11 ?_
  refine v_icmp_lt hX d_M_node_14 (tgt := 19) (by decide) (fun c => absurd c (Int32.not_lt.mpr h)) (fun _ => ?_)
  refine v_iconst (v := (-1)) hX d_M_node_17 (by decide) ?_
  exact v_iret hX hE d_M_node_18 (Nat.le_of_ble_eq_true rfl) (Nat.le_of_ble_eq_true rfl) ⟨rfl, ⟨_, rfl⟩, ⟨hd 48 rfl, rfl, hd 76 rfl, rfl, rfl⟩, rfl, rfl⟩
set_option maxHeartbeats 4000000 in
set_option maxRecDepth 100000 in
theorem c_M_node_0_0 {l : Launch} {D : va_G} {A : Nat → Prop} {cI cB cZ cJ cN : ClassId} {dom : Nat → Prop} (hd : ∀ k, (Nat.ble 48 k && Nat.ble (k + 1) 77) = true → dom k) {loc : Nat → Nat} {val : Nat → va_E} (hm : ∀ k, (Nat.ble 48 k && Nat.ble (k + 1) 76) = true → val k = mcell cI cB cZ loc k)  : kM l y_M_node (Cond.code y_M_node b_M_node 3 (some FieldType.int) :: TT) (rmL 1) D CL (TY cI cB cZ cJ cN) A [.ref (loc 48), .int 0, .int 0] (dom) loc val (fun rv d lo va kc ns => rv = some (.int (-1)) ∧ (∃ xs9, va 48 = .inr (5, .int 0 :: xs9)) ∧ keepO loc val d lo va ∧ kc = 0 ∧ ns = 0) := by
  refine kM_of (lv0 := [some (.ref (loc 48)), some (.int 0), some (.int 0)]) (own := "ProsePagesModel") (by decide) rfl (List.forall_mem_cons.mpr ⟨rfl, List.forall_mem_cons.mpr ⟨rfl, List.forall_mem_cons.mpr ⟨rfl, fun _ h => nomatch h⟩⟩⟩) (Nat.le_of_ble_eq_true rfl) rfl (Nat.le_of_ble_eq_true rfl) (fun X hl hX hE hin0 => ?_)
  refine v_aload_n hX d_M_node_0 rfl rfl ?_
  refine v_iconst (v := 0) hX d_M_node_1 (by decide) ?_
  refine v_putE hX 48 (fs2 := [.int 0, .ref (loc 49), .ref (loc 50), .ref (loc 51), .ref (loc 52), .ref (loc 53), .ref (loc 54), .ref (loc 55), .ref (loc 56), .int 1, .int 0, .int 0, .ref (loc 57), .ref (loc 58), .ref (loc 59), .ref (loc 60), .ref (loc 61), .ref (loc 62), .int 0, .int 0, .int 0, .int 0, .int 0, .int 0, .ref (loc 63), .ref (loc 64), .ref (loc 65), .ref (loc 66), .ref (loc 67), .ref (loc 68), .ref (loc 69), .ref (loc 70), .ref (loc 71), .ref (loc 72), .int 0, .ref (loc 73), .ref (loc 74), .ref (loc 75), .int 0, .int 0, .int 0, .int 0, .int 0, .int 0, .int 0]) inT5 tyX5 tyX5_ok nmX5 (hd 48 rfl) rfl (hm 48 rfl) rfl 0 (by decide) k_585 rfl rfl rfl rfl rfl (Nat.le_of_ble_eq_true rfl) d_M_node_2 rfl ?_
  refine v_iload_n hX d_M_node_5 rfl rfl ?_
  refine v_if_lt hX d_M_node_6 (tgt := 17) (by decide) (fun c => absurd c (by decide)) (fun _ => ?_)
  refine v_iload_n hX d_M_node_9 rfl rfl ?_
  refine v_aload_n hX d_M_node_10 rfl rfl ?_
  refine v_get hX 48 (v := .int 1) inT5 (hd 48 rfl) rfl rfl rfl 9 (by decide) k_594 rfl rfl d_M_node_11 ?_
  refine v_icmp_lt hX d_M_node_14 (tgt := 19) (by decide) (fun _ => ?_) (fun c => absurd (by decide) c)
  refine v_iload_n hX d_M_node_19 rfl rfl ?_
  refine v_tableIn hX d_M_node_20 (tgt := 48) (by decide) (by decide) (off := 28) (by decide) (by decide) ?_
  refine v_aload_n hX d_M_node_48 rfl rfl ?_
  refine v_get hX 48 (v := .ref (loc 49)) inT5 (hd 48 rfl) rfl rfl rfl 1 (by decide) k_586 rfl rfl d_M_node_49 ?_
  refine v_iload_n hX d_M_node_52 rfl rfl ?_
  refine v_iald hX 49 0 (v := 11) (hd 49 rfl) rfl (hm 49 rfl) rfl (vpb (by decide)) (by first | rfl | decide) d_M_node_53 ?_
  refine v_bipush (v := 11) hX d_M_node_54 (by decide) ?_
  refine v_icmp_ne hX d_M_node_56 (tgt := 63) (by decide) (fun c => absurd (by decide) c) (fun _ => ?_)
  refine v_iconst (v := (-1)) hX d_M_node_59 (by decide) ?_
  refine v_goto hX d_M_node_60 (tgt := 69) (by decide) ?_
  exact v_iret hX hE d_M_node_69 (Nat.le_of_ble_eq_true rfl) (Nat.le_of_ble_eq_true rfl) ⟨rfl, ⟨_, rfl⟩, ⟨hd 48 rfl, rfl, hd 76 rfl, rfl, rfl⟩, rfl, rfl⟩
set_option maxHeartbeats 4000000 in
set_option maxRecDepth 100000 in
theorem c_M_node_0_1 {l : Launch} {D : va_G} {A : Nat → Prop} {cI cB cZ cJ cN : ClassId} {dom : Nat → Prop} (hd : ∀ k, (Nat.ble 48 k && Nat.ble (k + 1) 77) = true → dom k) {loc : Nat → Nat} {val : Nat → va_E} (hm : ∀ k, (Nat.ble 48 k && Nat.ble (k + 1) 76) = true → val k = mcell cI cB cZ loc k)  : kM l y_M_node (Cond.code y_M_node b_M_node 3 (some FieldType.int) :: TT) (rmL 1) D CL (TY cI cB cZ cJ cN) A [.ref (loc 48), .int 0, .int 1] (dom) loc val (fun rv d lo va kc ns => rv = some (.int (-1)) ∧ (∃ xs9, va 48 = .inr (5, .int 0 :: xs9)) ∧ keepO loc val d lo va ∧ kc = 0 ∧ ns = 0) := by
  refine kM_of (lv0 := [some (.ref (loc 48)), some (.int 0), some (.int 1)]) (own := "ProsePagesModel") (by decide) rfl (List.forall_mem_cons.mpr ⟨rfl, List.forall_mem_cons.mpr ⟨rfl, List.forall_mem_cons.mpr ⟨rfl, fun _ h => nomatch h⟩⟩⟩) (Nat.le_of_ble_eq_true rfl) rfl (Nat.le_of_ble_eq_true rfl) (fun X hl hX hE hin0 => ?_)
  refine v_aload_n hX d_M_node_0 rfl rfl ?_
  refine v_iconst (v := 0) hX d_M_node_1 (by decide) ?_
  refine v_putE hX 48 (fs2 := [.int 0, .ref (loc 49), .ref (loc 50), .ref (loc 51), .ref (loc 52), .ref (loc 53), .ref (loc 54), .ref (loc 55), .ref (loc 56), .int 1, .int 0, .int 0, .ref (loc 57), .ref (loc 58), .ref (loc 59), .ref (loc 60), .ref (loc 61), .ref (loc 62), .int 0, .int 0, .int 0, .int 0, .int 0, .int 0, .ref (loc 63), .ref (loc 64), .ref (loc 65), .ref (loc 66), .ref (loc 67), .ref (loc 68), .ref (loc 69), .ref (loc 70), .ref (loc 71), .ref (loc 72), .int 0, .ref (loc 73), .ref (loc 74), .ref (loc 75), .int 0, .int 0, .int 0, .int 0, .int 0, .int 0, .int 0]) inT5 tyX5 tyX5_ok nmX5 (hd 48 rfl) rfl (hm 48 rfl) rfl 0 (by decide) k_585 rfl rfl rfl rfl rfl (Nat.le_of_ble_eq_true rfl) d_M_node_2 rfl ?_
  refine v_iload_n hX d_M_node_5 rfl rfl ?_
  refine v_if_lt hX d_M_node_6 (tgt := 17) (by decide) (fun c => absurd c (by decide)) (fun _ => ?_)
  refine v_iload_n hX d_M_node_9 rfl rfl ?_
  refine v_aload_n hX d_M_node_10 rfl rfl ?_
  refine v_get hX 48 (v := .int 1) inT5 (hd 48 rfl) rfl rfl rfl 9 (by decide) k_594 rfl rfl d_M_node_11 ?_
  refine v_icmp_lt hX d_M_node_14 (tgt := 19) (by decide) (fun _ => ?_) (fun c => absurd (by decide) c)
  refine v_iload_n hX d_M_node_19 rfl rfl ?_
  refine v_tableIn hX d_M_node_20 (tgt := 70) (by decide) (by decide) (off := 50) (by decide) (by decide) ?_
  refine v_aload_n hX d_M_node_70 rfl rfl ?_
  refine v_get hX 48 (v := .ref (loc 50)) inT5 (hd 48 rfl) rfl rfl rfl 2 (by decide) k_587 rfl rfl d_M_node_71 ?_
  refine v_iload_n hX d_M_node_74 rfl rfl ?_
  refine v_iald hX 50 0 (v := (-1)) (hd 50 rfl) rfl (hm 50 rfl) rfl (vpb (by decide)) (by first | rfl | decide) d_M_node_75 ?_
  exact v_iret hX hE d_M_node_76 (Nat.le_of_ble_eq_true rfl) (Nat.le_of_ble_eq_true rfl) ⟨rfl, ⟨_, rfl⟩, ⟨hd 48 rfl, rfl, hd 76 rfl, rfl, rfl⟩, rfl, rfl⟩
set_option maxHeartbeats 4000000 in
set_option maxRecDepth 100000 in
theorem c_M_node_0_2 {l : Launch} {D : va_G} {A : Nat → Prop} {cI cB cZ cJ cN : ClassId} {dom : Nat → Prop} (hd : ∀ k, (Nat.ble 48 k && Nat.ble (k + 1) 77) = true → dom k) {loc : Nat → Nat} {val : Nat → va_E} (hm : ∀ k, (Nat.ble 48 k && Nat.ble (k + 1) 76) = true → val k = mcell cI cB cZ loc k)  : kM l y_M_node (Cond.code y_M_node b_M_node 3 (some FieldType.int) :: TT) (rmL 1) D CL (TY cI cB cZ cJ cN) A [.ref (loc 48), .int 0, .int 2] (dom) loc val (fun rv d lo va kc ns => rv = some (.int 0) ∧ (∃ xs9, va 48 = .inr (5, .int 0 :: xs9)) ∧ keepO loc val d lo va ∧ kc = 0 ∧ ns = 0) := by
  refine kM_of (lv0 := [some (.ref (loc 48)), some (.int 0), some (.int 2)]) (own := "ProsePagesModel") (by decide) rfl (List.forall_mem_cons.mpr ⟨rfl, List.forall_mem_cons.mpr ⟨rfl, List.forall_mem_cons.mpr ⟨rfl, fun _ h => nomatch h⟩⟩⟩) (Nat.le_of_ble_eq_true rfl) rfl (Nat.le_of_ble_eq_true rfl) (fun X hl hX hE hin0 => ?_)
  refine v_aload_n hX d_M_node_0 rfl rfl ?_
  refine v_iconst (v := 0) hX d_M_node_1 (by decide) ?_
  refine v_putE hX 48 (fs2 := [.int 0, .ref (loc 49), .ref (loc 50), .ref (loc 51), .ref (loc 52), .ref (loc 53), .ref (loc 54), .ref (loc 55), .ref (loc 56), .int 1, .int 0, .int 0, .ref (loc 57), .ref (loc 58), .ref (loc 59), .ref (loc 60), .ref (loc 61), .ref (loc 62), .int 0, .int 0, .int 0, .int 0, .int 0, .int 0, .ref (loc 63), .ref (loc 64), .ref (loc 65), .ref (loc 66), .ref (loc 67), .ref (loc 68), .ref (loc 69), .ref (loc 70), .ref (loc 71), .ref (loc 72), .int 0, .ref (loc 73), .ref (loc 74), .ref (loc 75), .int 0, .int 0, .int 0, .int 0, .int 0, .int 0, .int 0]) inT5 tyX5 tyX5_ok nmX5 (hd 48 rfl) rfl (hm 48 rfl) rfl 0 (by decide) k_585 rfl rfl rfl rfl rfl (Nat.le_of_ble_eq_true rfl) d_M_node_2 rfl ?_
  refine v_iload_n hX d_M_node_5 rfl rfl ?_
  refine v_if_lt hX d_M_node_6 (tgt := 17) (by decide) (fun c => absurd c (by decide)) (fun _ => ?_)
  refine v_iload_n hX d_M_node_9 rfl rfl ?_
  refine v_aload_n hX d_M_node_10 rfl rfl ?_
  refine v_get hX 48 (v := .int 1) inT5 (hd 48 rfl) rfl rfl rfl 9 (by decide) k_594 rfl rfl d_M_node_11 ?_
  refine v_icmp_lt hX d_M_node_14 (tgt := 19) (by decide) (fun _ => ?_) (fun c => absurd (by decide) c)
  refine v_iload_n hX d_M_node_19 rfl rfl ?_
  refine v_tableIn hX d_M_node_20 (tgt := 77) (by decide) (by decide) (off := 57) (by decide) (by decide) ?_
  refine v_aload_n hX d_M_node_77 rfl rfl ?_
  refine v_get hX 48 (v := .ref (loc 49)) inT5 (hd 48 rfl) rfl rfl rfl 1 (by decide) k_586 rfl rfl d_M_node_78 ?_
  refine v_iload_n hX d_M_node_81 rfl rfl ?_
  refine v_iald hX 49 0 (v := 11) (hd 49 rfl) rfl (hm 49 rfl) rfl (vpb (by decide)) (by first | rfl | decide) d_M_node_82 ?_
  refine v_bipush (v := 10) hX d_M_node_83 (by decide) ?_
  refine v_icmp_ne hX d_M_node_85 (tgt := 97) (by decide) (fun _ => ?_) (fun c => absurd c (by decide))
  refine v_aload_n hX d_M_node_97 rfl rfl ?_
  refine v_get hX 48 (v := .ref (loc 51)) inT5 (hd 48 rfl) rfl rfl rfl 3 (by decide) k_588 rfl rfl d_M_node_98 ?_
  refine v_iload_n hX d_M_node_101 rfl rfl ?_
  refine v_iald hX 51 0 (v := 0) (hd 51 rfl) rfl (hm 51 rfl) rfl (vpb (by decide)) (by first | rfl | decide) d_M_node_102 ?_
  exact v_iret hX hE d_M_node_103 (Nat.le_of_ble_eq_true rfl) (Nat.le_of_ble_eq_true rfl) ⟨rfl, ⟨_, rfl⟩, ⟨hd 48 rfl, rfl, hd 76 rfl, rfl, rfl⟩, rfl, rfl⟩
set_option maxHeartbeats 4000000 in
set_option maxRecDepth 100000 in
theorem c_M_node_0_x {l : Launch} {D : va_G} {A : Nat → Prop} {cI cB cZ cJ cN : ClassId} {dom : Nat → Prop} (hd : ∀ k, (Nat.ble 48 k && Nat.ble (k + 1) 77) = true → dom k) {loc : Nat → Nat} {val : Nat → va_E} (hm : ∀ k, (Nat.ble 48 k && Nat.ble (k + 1) 76) = true → val k = mcell cI cB cZ loc k) (y : Int32) (hw : y.toInt < 0 ∨ 2 < y.toInt) : kM l y_M_node (Cond.code y_M_node b_M_node 3 (some FieldType.int) :: TT) (rmL 1) D CL (TY cI cB cZ cJ cN) A [.ref (loc 48), .int 0, .int y] (dom) loc val (fun rv d lo va kc ns => rv = some (.int (-1)) ∧ (∃ xs9, va 48 = .inr (5, .int 0 :: xs9)) ∧ keepO loc val d lo va ∧ kc = 0 ∧ ns = 0) := by
  refine kM_of (lv0 := [some (.ref (loc 48)), some (.int 0), some (.int y)]) (own := "ProsePagesModel") (by decide) rfl (List.forall_mem_cons.mpr ⟨rfl, List.forall_mem_cons.mpr ⟨rfl, List.forall_mem_cons.mpr ⟨rfl, fun _ h => nomatch h⟩⟩⟩) (Nat.le_of_ble_eq_true rfl) rfl (Nat.le_of_ble_eq_true rfl) (fun X hl hX hE hin0 => ?_)
  refine v_aload_n hX d_M_node_0 rfl rfl ?_
  refine v_iconst (v := 0) hX d_M_node_1 (by decide) ?_
  refine v_putE hX 48 (fs2 := [.int 0, .ref (loc 49), .ref (loc 50), .ref (loc 51), .ref (loc 52), .ref (loc 53), .ref (loc 54), .ref (loc 55), .ref (loc 56), .int 1, .int 0, .int 0, .ref (loc 57), .ref (loc 58), .ref (loc 59), .ref (loc 60), .ref (loc 61), .ref (loc 62), .int 0, .int 0, .int 0, .int 0, .int 0, .int 0, .ref (loc 63), .ref (loc 64), .ref (loc 65), .ref (loc 66), .ref (loc 67), .ref (loc 68), .ref (loc 69), .ref (loc 70), .ref (loc 71), .ref (loc 72), .int 0, .ref (loc 73), .ref (loc 74), .ref (loc 75), .int 0, .int 0, .int 0, .int 0, .int 0, .int 0, .int 0]) inT5 tyX5 tyX5_ok nmX5 (hd 48 rfl) rfl (hm 48 rfl) rfl 0 (by decide) k_585 rfl rfl rfl rfl rfl (Nat.le_of_ble_eq_true rfl) d_M_node_2 rfl ?_
  refine v_iload_n hX d_M_node_5 rfl rfl ?_
  refine v_if_lt hX d_M_node_6 (tgt := 17) (by decide) (fun c => absurd c (by decide)) (fun _ => ?_)
  refine v_iload_n hX d_M_node_9 rfl rfl ?_
  refine v_aload_n hX d_M_node_10 rfl rfl ?_
  refine v_get hX 48 (v := .int 1) inT5 (hd 48 rfl) rfl rfl rfl 9 (by decide) k_594 rfl rfl d_M_node_11 ?_
  refine v_icmp_lt hX d_M_node_14 (tgt := 19) (by decide) (fun _ => ?_) (fun c => absurd (by decide) c)
  refine v_iload_n hX d_M_node_19 rfl rfl ?_
  refine v_tableOut hX d_M_node_20 (tgt := 104) hw (by decide) ?_
  refine v_iconst (v := (-1)) hX d_M_node_104 (by decide) ?_
  exact v_iret hX hE d_M_node_105 (Nat.le_of_ble_eq_true rfl) (Nat.le_of_ble_eq_true rfl) ⟨rfl, ⟨_, rfl⟩, ⟨hd 48 rfl, rfl, hd 76 rfl, rfl, rfl⟩, rfl, rfl⟩
set_option maxHeartbeats 4000000 in
set_option maxRecDepth 100000 in
theorem c_M_about_0 {l : Launch} {D : va_G} {A : Nat → Prop} {cI cB cZ cJ cN : ClassId} {dom : Nat → Prop} (hd : ∀ k, (Nat.ble 48 k && Nat.ble (k + 1) 77) = true → dom k) {loc : Nat → Nat} {val : Nat → va_E} (hm : ∀ k, (Nat.ble 48 k && Nat.ble (k + 1) 76) = true → val k = mcell cI cB cZ loc k)  : kM l y_M_about (Cond.code y_M_about b_M_about 2 (some FieldType.int) :: TT) (rmL 1) D CL (TY cI cB cZ cJ cN) A [.ref (loc 48), .int 0] (dom) loc val (fun rv d lo va kc ns => rv = some (.int 1) ∧ (∃ xs9, va 48 = .inr (5, .int 0 :: xs9)) ∧ keepO loc val d lo va ∧ kc = 0 ∧ ns = 0) := by
  refine kM_of (lv0 := [some (.ref (loc 48)), some (.int 0)]) (own := "ProsePagesModel") (by decide) rfl (List.forall_mem_cons.mpr ⟨rfl, List.forall_mem_cons.mpr ⟨rfl, fun _ h => nomatch h⟩⟩) (Nat.le_of_ble_eq_true rfl) rfl (Nat.le_of_ble_eq_true rfl) (fun X hl hX hE hin0 => ?_)
  refine v_aload_n hX d_M_about_0 rfl rfl ?_
  refine v_iconst (v := 0) hX d_M_about_1 (by decide) ?_
  refine v_putE hX 48 (fs2 := [.int 0, .ref (loc 49), .ref (loc 50), .ref (loc 51), .ref (loc 52), .ref (loc 53), .ref (loc 54), .ref (loc 55), .ref (loc 56), .int 1, .int 0, .int 0, .ref (loc 57), .ref (loc 58), .ref (loc 59), .ref (loc 60), .ref (loc 61), .ref (loc 62), .int 0, .int 0, .int 0, .int 0, .int 0, .int 0, .ref (loc 63), .ref (loc 64), .ref (loc 65), .ref (loc 66), .ref (loc 67), .ref (loc 68), .ref (loc 69), .ref (loc 70), .ref (loc 71), .ref (loc 72), .int 0, .ref (loc 73), .ref (loc 74), .ref (loc 75), .int 0, .int 0, .int 0, .int 0, .int 0, .int 0, .int 0]) inT5 tyX5 tyX5_ok nmX5 (hd 48 rfl) rfl (hm 48 rfl) rfl 0 (by decide) k_585 rfl rfl rfl rfl rfl (Nat.le_of_ble_eq_true rfl) d_M_about_2 rfl ?_
  refine v_iload_n hX d_M_about_5 rfl rfl ?_
  refine v_tableIn hX d_M_about_6 (tgt := 48) (by decide) (by decide) (off := 42) (by decide) (by decide) ?_
  refine v_aload_n hX d_M_about_48 rfl rfl ?_
  refine v_get hX 48 (v := .int 1) inT5 (hd 48 rfl) rfl rfl rfl 9 (by decide) k_594 rfl rfl d_M_about_49 ?_
  exact v_iret hX hE d_M_about_52 (Nat.le_of_ble_eq_true rfl) (Nat.le_of_ble_eq_true rfl) ⟨rfl, ⟨_, rfl⟩, ⟨hd 48 rfl, rfl, hd 76 rfl, rfl, rfl⟩, rfl, rfl⟩
set_option maxHeartbeats 4000000 in
set_option maxRecDepth 100000 in
theorem c_M_about_1 {l : Launch} {D : va_G} {A : Nat → Prop} {cI cB cZ cJ cN : ClassId} {dom : Nat → Prop} (hd : ∀ k, (Nat.ble 48 k && Nat.ble (k + 1) 77) = true → dom k) {loc : Nat → Nat} {val : Nat → va_E} (hm : ∀ k, (Nat.ble 48 k && Nat.ble (k + 1) 76) = true → val k = mcell cI cB cZ loc k)  : kM l y_M_about (Cond.code y_M_about b_M_about 2 (some FieldType.int) :: TT) (rmL 1) D CL (TY cI cB cZ cJ cN) A [.ref (loc 48), .int 1] (dom) loc val (fun rv d lo va kc ns => rv = some (.int 0) ∧ (∃ xs9, va 48 = .inr (5, .int 0 :: xs9)) ∧ keepO loc val d lo va ∧ kc = 0 ∧ ns = 0) := by
  refine kM_of (lv0 := [some (.ref (loc 48)), some (.int 1)]) (own := "ProsePagesModel") (by decide) rfl (List.forall_mem_cons.mpr ⟨rfl, List.forall_mem_cons.mpr ⟨rfl, fun _ h => nomatch h⟩⟩) (Nat.le_of_ble_eq_true rfl) rfl (Nat.le_of_ble_eq_true rfl) (fun X hl hX hE hin0 => ?_)
  refine v_aload_n hX d_M_about_0 rfl rfl ?_
  refine v_iconst (v := 0) hX d_M_about_1 (by decide) ?_
  refine v_putE hX 48 (fs2 := [.int 0, .ref (loc 49), .ref (loc 50), .ref (loc 51), .ref (loc 52), .ref (loc 53), .ref (loc 54), .ref (loc 55), .ref (loc 56), .int 1, .int 0, .int 0, .ref (loc 57), .ref (loc 58), .ref (loc 59), .ref (loc 60), .ref (loc 61), .ref (loc 62), .int 0, .int 0, .int 0, .int 0, .int 0, .int 0, .ref (loc 63), .ref (loc 64), .ref (loc 65), .ref (loc 66), .ref (loc 67), .ref (loc 68), .ref (loc 69), .ref (loc 70), .ref (loc 71), .ref (loc 72), .int 0, .ref (loc 73), .ref (loc 74), .ref (loc 75), .int 0, .int 0, .int 0, .int 0, .int 0, .int 0, .int 0]) inT5 tyX5 tyX5_ok nmX5 (hd 48 rfl) rfl (hm 48 rfl) rfl 0 (by decide) k_585 rfl rfl rfl rfl rfl (Nat.le_of_ble_eq_true rfl) d_M_about_2 rfl ?_
  refine v_iload_n hX d_M_about_5 rfl rfl ?_
  refine v_tableIn hX d_M_about_6 (tgt := 53) (by decide) (by decide) (off := 47) (by decide) (by decide) ?_
  refine v_aload_n hX d_M_about_53 rfl rfl ?_
  refine v_get hX 48 (v := .int 0) inT5 (hd 48 rfl) rfl rfl rfl 10 (by decide) k_595 rfl rfl d_M_about_54 ?_
  exact v_iret hX hE d_M_about_57 (Nat.le_of_ble_eq_true rfl) (Nat.le_of_ble_eq_true rfl) ⟨rfl, ⟨_, rfl⟩, ⟨hd 48 rfl, rfl, hd 76 rfl, rfl, rfl⟩, rfl, rfl⟩
set_option maxHeartbeats 4000000 in
set_option maxRecDepth 100000 in
theorem c_M_about_2 {l : Launch} {D : va_G} {A : Nat → Prop} {cI cB cZ cJ cN : ClassId} {dom : Nat → Prop} (hd : ∀ k, (Nat.ble 48 k && Nat.ble (k + 1) 77) = true → dom k) {loc : Nat → Nat} {val : Nat → va_E} (hm : ∀ k, (Nat.ble 48 k && Nat.ble (k + 1) 76) = true → val k = mcell cI cB cZ loc k)  : kM l y_M_about (Cond.code y_M_about b_M_about 2 (some FieldType.int) :: TT) (rmL 1) D CL (TY cI cB cZ cJ cN) A [.ref (loc 48), .int 2] (dom) loc val (fun rv d lo va kc ns => rv = some (.int 0) ∧ (∃ xs9, va 48 = .inr (5, .int 0 :: xs9)) ∧ keepO loc val d lo va ∧ kc = 0 ∧ ns = 0) := by
  refine kM_of (lv0 := [some (.ref (loc 48)), some (.int 2)]) (own := "ProsePagesModel") (by decide) rfl (List.forall_mem_cons.mpr ⟨rfl, List.forall_mem_cons.mpr ⟨rfl, fun _ h => nomatch h⟩⟩) (Nat.le_of_ble_eq_true rfl) rfl (Nat.le_of_ble_eq_true rfl) (fun X hl hX hE hin0 => ?_)
  refine v_aload_n hX d_M_about_0 rfl rfl ?_
  refine v_iconst (v := 0) hX d_M_about_1 (by decide) ?_
  refine v_putE hX 48 (fs2 := [.int 0, .ref (loc 49), .ref (loc 50), .ref (loc 51), .ref (loc 52), .ref (loc 53), .ref (loc 54), .ref (loc 55), .ref (loc 56), .int 1, .int 0, .int 0, .ref (loc 57), .ref (loc 58), .ref (loc 59), .ref (loc 60), .ref (loc 61), .ref (loc 62), .int 0, .int 0, .int 0, .int 0, .int 0, .int 0, .ref (loc 63), .ref (loc 64), .ref (loc 65), .ref (loc 66), .ref (loc 67), .ref (loc 68), .ref (loc 69), .ref (loc 70), .ref (loc 71), .ref (loc 72), .int 0, .ref (loc 73), .ref (loc 74), .ref (loc 75), .int 0, .int 0, .int 0, .int 0, .int 0, .int 0, .int 0]) inT5 tyX5 tyX5_ok nmX5 (hd 48 rfl) rfl (hm 48 rfl) rfl 0 (by decide) k_585 rfl rfl rfl rfl rfl (Nat.le_of_ble_eq_true rfl) d_M_about_2 rfl ?_
  refine v_iload_n hX d_M_about_5 rfl rfl ?_
  refine v_tableIn hX d_M_about_6 (tgt := 58) (by decide) (by decide) (off := 52) (by decide) (by decide) ?_
  refine v_aload_n hX d_M_about_58 rfl rfl ?_
  refine v_get hX 48 (v := .int 0) inT5 (hd 48 rfl) rfl rfl rfl 11 (by decide) k_596 rfl rfl d_M_about_59 ?_
  exact v_iret hX hE d_M_about_62 (Nat.le_of_ble_eq_true rfl) (Nat.le_of_ble_eq_true rfl) ⟨rfl, ⟨_, rfl⟩, ⟨hd 48 rfl, rfl, hd 76 rfl, rfl, rfl⟩, rfl, rfl⟩
set_option maxHeartbeats 4000000 in
set_option maxRecDepth 100000 in
theorem c_M_about_3 {l : Launch} {D : va_G} {A : Nat → Prop} {cI cB cZ cJ cN : ClassId} {dom : Nat → Prop} (hd : ∀ k, (Nat.ble 48 k && Nat.ble (k + 1) 77) = true → dom k) {loc : Nat → Nat} {val : Nat → va_E} (hm : ∀ k, (Nat.ble 48 k && Nat.ble (k + 1) 76) = true → val k = mcell cI cB cZ loc k)  : kM l y_M_about (Cond.code y_M_about b_M_about 2 (some FieldType.int) :: TT) (rmL 1) D CL (TY cI cB cZ cJ cN) A [.ref (loc 48), .int 3] (dom) loc val (fun rv d lo va kc ns => rv = some (.int 0) ∧ (∃ xs9, va 48 = .inr (5, .int 0 :: xs9)) ∧ keepO loc val d lo va ∧ kc = 0 ∧ ns = 0) := by
  refine kM_of (lv0 := [some (.ref (loc 48)), some (.int 3)]) (own := "ProsePagesModel") (by decide) rfl (List.forall_mem_cons.mpr ⟨rfl, List.forall_mem_cons.mpr ⟨rfl, fun _ h => nomatch h⟩⟩) (Nat.le_of_ble_eq_true rfl) rfl (Nat.le_of_ble_eq_true rfl) (fun X hl hX hE hin0 => ?_)
  refine v_aload_n hX d_M_about_0 rfl rfl ?_
  refine v_iconst (v := 0) hX d_M_about_1 (by decide) ?_
  refine v_putE hX 48 (fs2 := [.int 0, .ref (loc 49), .ref (loc 50), .ref (loc 51), .ref (loc 52), .ref (loc 53), .ref (loc 54), .ref (loc 55), .ref (loc 56), .int 1, .int 0, .int 0, .ref (loc 57), .ref (loc 58), .ref (loc 59), .ref (loc 60), .ref (loc 61), .ref (loc 62), .int 0, .int 0, .int 0, .int 0, .int 0, .int 0, .ref (loc 63), .ref (loc 64), .ref (loc 65), .ref (loc 66), .ref (loc 67), .ref (loc 68), .ref (loc 69), .ref (loc 70), .ref (loc 71), .ref (loc 72), .int 0, .ref (loc 73), .ref (loc 74), .ref (loc 75), .int 0, .int 0, .int 0, .int 0, .int 0, .int 0, .int 0]) inT5 tyX5 tyX5_ok nmX5 (hd 48 rfl) rfl (hm 48 rfl) rfl 0 (by decide) k_585 rfl rfl rfl rfl rfl (Nat.le_of_ble_eq_true rfl) d_M_about_2 rfl ?_
  refine v_iload_n hX d_M_about_5 rfl rfl ?_
  refine v_tableIn hX d_M_about_6 (tgt := 63) (by decide) (by decide) (off := 57) (by decide) (by decide) ?_
  refine v_aload_n hX d_M_about_63 rfl rfl ?_
  refine v_get hX 48 (v := .int 0) inT5 (hd 48 rfl) rfl rfl rfl 19 (by decide) k_604 rfl rfl d_M_about_64 ?_
  exact v_iret hX hE d_M_about_67 (Nat.le_of_ble_eq_true rfl) (Nat.le_of_ble_eq_true rfl) ⟨rfl, ⟨_, rfl⟩, ⟨hd 48 rfl, rfl, hd 76 rfl, rfl, rfl⟩, rfl, rfl⟩
set_option maxHeartbeats 4000000 in
set_option maxRecDepth 100000 in
theorem c_M_about_4 {l : Launch} {D : va_G} {A : Nat → Prop} {cI cB cZ cJ cN : ClassId} {dom : Nat → Prop} (hd : ∀ k, (Nat.ble 48 k && Nat.ble (k + 1) 77) = true → dom k) {loc : Nat → Nat} {val : Nat → va_E} (hm : ∀ k, (Nat.ble 48 k && Nat.ble (k + 1) 76) = true → val k = mcell cI cB cZ loc k)  : kM l y_M_about (Cond.code y_M_about b_M_about 2 (some FieldType.int) :: TT) (rmL 1) D CL (TY cI cB cZ cJ cN) A [.ref (loc 48), .int 4] (dom) loc val (fun rv d lo va kc ns => rv = some (.int 0) ∧ (∃ xs9, va 48 = .inr (5, .int 0 :: xs9)) ∧ keepO loc val d lo va ∧ kc = 0 ∧ ns = 0) := by
  refine kM_of (lv0 := [some (.ref (loc 48)), some (.int 4)]) (own := "ProsePagesModel") (by decide) rfl (List.forall_mem_cons.mpr ⟨rfl, List.forall_mem_cons.mpr ⟨rfl, fun _ h => nomatch h⟩⟩) (Nat.le_of_ble_eq_true rfl) rfl (Nat.le_of_ble_eq_true rfl) (fun X hl hX hE hin0 => ?_)
  refine v_aload_n hX d_M_about_0 rfl rfl ?_
  refine v_iconst (v := 0) hX d_M_about_1 (by decide) ?_
  refine v_putE hX 48 (fs2 := [.int 0, .ref (loc 49), .ref (loc 50), .ref (loc 51), .ref (loc 52), .ref (loc 53), .ref (loc 54), .ref (loc 55), .ref (loc 56), .int 1, .int 0, .int 0, .ref (loc 57), .ref (loc 58), .ref (loc 59), .ref (loc 60), .ref (loc 61), .ref (loc 62), .int 0, .int 0, .int 0, .int 0, .int 0, .int 0, .ref (loc 63), .ref (loc 64), .ref (loc 65), .ref (loc 66), .ref (loc 67), .ref (loc 68), .ref (loc 69), .ref (loc 70), .ref (loc 71), .ref (loc 72), .int 0, .ref (loc 73), .ref (loc 74), .ref (loc 75), .int 0, .int 0, .int 0, .int 0, .int 0, .int 0, .int 0]) inT5 tyX5 tyX5_ok nmX5 (hd 48 rfl) rfl (hm 48 rfl) rfl 0 (by decide) k_585 rfl rfl rfl rfl rfl (Nat.le_of_ble_eq_true rfl) d_M_about_2 rfl ?_
  refine v_iload_n hX d_M_about_5 rfl rfl ?_
  refine v_tableIn hX d_M_about_6 (tgt := 68) (by decide) (by decide) (off := 62) (by decide) (by decide) ?_
  refine v_aload_n hX d_M_about_68 rfl rfl ?_
  refine v_get hX 48 (v := .int 0) inT5 (hd 48 rfl) rfl rfl rfl 19 (by decide) k_604 rfl rfl d_M_about_69 ?_
  refine v_if_le hX d_M_about_72 (tgt := 82) (by decide) (fun _ => ?_) (fun c => absurd (by decide) c)
  refine v_iconst (v := 0) hX d_M_about_82 (by decide) ?_
  exact v_iret hX hE d_M_about_83 (Nat.le_of_ble_eq_true rfl) (Nat.le_of_ble_eq_true rfl) ⟨rfl, ⟨_, rfl⟩, ⟨hd 48 rfl, rfl, hd 76 rfl, rfl, rfl⟩, rfl, rfl⟩
set_option maxHeartbeats 4000000 in
set_option maxRecDepth 100000 in
theorem c_M_about_5 {l : Launch} {D : va_G} {A : Nat → Prop} {cI cB cZ cJ cN : ClassId} {dom : Nat → Prop} (hd : ∀ k, (Nat.ble 48 k && Nat.ble (k + 1) 77) = true → dom k) {loc : Nat → Nat} {val : Nat → va_E} (hm : ∀ k, (Nat.ble 48 k && Nat.ble (k + 1) 76) = true → val k = mcell cI cB cZ loc k)  : kM l y_M_about (Cond.code y_M_about b_M_about 2 (some FieldType.int) :: TT) (rmL 1) D CL (TY cI cB cZ cJ cN) A [.ref (loc 48), .int 5] (dom) loc val (fun rv d lo va kc ns => rv = some (.int 0) ∧ (∃ xs9, va 48 = .inr (5, .int 0 :: xs9)) ∧ keepO loc val d lo va ∧ kc = 0 ∧ ns = 0) := by
  refine kM_of (lv0 := [some (.ref (loc 48)), some (.int 5)]) (own := "ProsePagesModel") (by decide) rfl (List.forall_mem_cons.mpr ⟨rfl, List.forall_mem_cons.mpr ⟨rfl, fun _ h => nomatch h⟩⟩) (Nat.le_of_ble_eq_true rfl) rfl (Nat.le_of_ble_eq_true rfl) (fun X hl hX hE hin0 => ?_)
  refine v_aload_n hX d_M_about_0 rfl rfl ?_
  refine v_iconst (v := 0) hX d_M_about_1 (by decide) ?_
  refine v_putE hX 48 (fs2 := [.int 0, .ref (loc 49), .ref (loc 50), .ref (loc 51), .ref (loc 52), .ref (loc 53), .ref (loc 54), .ref (loc 55), .ref (loc 56), .int 1, .int 0, .int 0, .ref (loc 57), .ref (loc 58), .ref (loc 59), .ref (loc 60), .ref (loc 61), .ref (loc 62), .int 0, .int 0, .int 0, .int 0, .int 0, .int 0, .ref (loc 63), .ref (loc 64), .ref (loc 65), .ref (loc 66), .ref (loc 67), .ref (loc 68), .ref (loc 69), .ref (loc 70), .ref (loc 71), .ref (loc 72), .int 0, .ref (loc 73), .ref (loc 74), .ref (loc 75), .int 0, .int 0, .int 0, .int 0, .int 0, .int 0, .int 0]) inT5 tyX5 tyX5_ok nmX5 (hd 48 rfl) rfl (hm 48 rfl) rfl 0 (by decide) k_585 rfl rfl rfl rfl rfl (Nat.le_of_ble_eq_true rfl) d_M_about_2 rfl ?_
  refine v_iload_n hX d_M_about_5 rfl rfl ?_
  refine v_tableIn hX d_M_about_6 (tgt := 84) (by decide) (by decide) (off := 78) (by decide) (by decide) ?_
  refine v_aload_n hX d_M_about_84 rfl rfl ?_
  refine v_get hX 48 (v := .int 0) inT5 (hd 48 rfl) rfl rfl rfl 20 (by decide) k_605 rfl rfl d_M_about_85 ?_
  exact v_iret hX hE d_M_about_88 (Nat.le_of_ble_eq_true rfl) (Nat.le_of_ble_eq_true rfl) ⟨rfl, ⟨_, rfl⟩, ⟨hd 48 rfl, rfl, hd 76 rfl, rfl, rfl⟩, rfl, rfl⟩
set_option maxHeartbeats 4000000 in
set_option maxRecDepth 100000 in
theorem c_M_about_6 {l : Launch} {D : va_G} {A : Nat → Prop} {cI cB cZ cJ cN : ClassId} {dom : Nat → Prop} (hd : ∀ k, (Nat.ble 48 k && Nat.ble (k + 1) 77) = true → dom k) {loc : Nat → Nat} {val : Nat → va_E} (hm : ∀ k, (Nat.ble 48 k && Nat.ble (k + 1) 76) = true → val k = mcell cI cB cZ loc k)  : kM l y_M_about (Cond.code y_M_about b_M_about 2 (some FieldType.int) :: TT) (rmL 1) D CL (TY cI cB cZ cJ cN) A [.ref (loc 48), .int 6] (dom) loc val (fun rv d lo va kc ns => rv = some (.int 0) ∧ (∃ xs9, va 48 = .inr (5, .int 0 :: xs9)) ∧ keepO loc val d lo va ∧ kc = 0 ∧ ns = 0) := by
  refine kM_of (lv0 := [some (.ref (loc 48)), some (.int 6)]) (own := "ProsePagesModel") (by decide) rfl (List.forall_mem_cons.mpr ⟨rfl, List.forall_mem_cons.mpr ⟨rfl, fun _ h => nomatch h⟩⟩) (Nat.le_of_ble_eq_true rfl) rfl (Nat.le_of_ble_eq_true rfl) (fun X hl hX hE hin0 => ?_)
  refine v_aload_n hX d_M_about_0 rfl rfl ?_
  refine v_iconst (v := 0) hX d_M_about_1 (by decide) ?_
  refine v_putE hX 48 (fs2 := [.int 0, .ref (loc 49), .ref (loc 50), .ref (loc 51), .ref (loc 52), .ref (loc 53), .ref (loc 54), .ref (loc 55), .ref (loc 56), .int 1, .int 0, .int 0, .ref (loc 57), .ref (loc 58), .ref (loc 59), .ref (loc 60), .ref (loc 61), .ref (loc 62), .int 0, .int 0, .int 0, .int 0, .int 0, .int 0, .ref (loc 63), .ref (loc 64), .ref (loc 65), .ref (loc 66), .ref (loc 67), .ref (loc 68), .ref (loc 69), .ref (loc 70), .ref (loc 71), .ref (loc 72), .int 0, .ref (loc 73), .ref (loc 74), .ref (loc 75), .int 0, .int 0, .int 0, .int 0, .int 0, .int 0, .int 0]) inT5 tyX5 tyX5_ok nmX5 (hd 48 rfl) rfl (hm 48 rfl) rfl 0 (by decide) k_585 rfl rfl rfl rfl rfl (Nat.le_of_ble_eq_true rfl) d_M_about_2 rfl ?_
  refine v_iload_n hX d_M_about_5 rfl rfl ?_
  refine v_tableIn hX d_M_about_6 (tgt := 89) (by decide) (by decide) (off := 83) (by decide) (by decide) ?_
  refine v_aload_n hX d_M_about_89 rfl rfl ?_
  refine v_get hX 48 (v := .int 0) inT5 (hd 48 rfl) rfl rfl rfl 19 (by decide) k_604 rfl rfl d_M_about_90 ?_
  refine v_if_le hX d_M_about_93 (tgt := 103) (by decide) (fun _ => ?_) (fun c => absurd (by decide) c)
  refine v_iconst (v := 0) hX d_M_about_103 (by decide) ?_
  exact v_iret hX hE d_M_about_104 (Nat.le_of_ble_eq_true rfl) (Nat.le_of_ble_eq_true rfl) ⟨rfl, ⟨_, rfl⟩, ⟨hd 48 rfl, rfl, hd 76 rfl, rfl, rfl⟩, rfl, rfl⟩
set_option maxHeartbeats 4000000 in
set_option maxRecDepth 100000 in
theorem c_M_about_x {l : Launch} {D : va_G} {A : Nat → Prop} {cI cB cZ cJ cN : ClassId} {dom : Nat → Prop} (hd : ∀ k, (Nat.ble 48 k && Nat.ble (k + 1) 77) = true → dom k) {loc : Nat → Nat} {val : Nat → va_E} (hm : ∀ k, (Nat.ble 48 k && Nat.ble (k + 1) 76) = true → val k = mcell cI cB cZ loc k) (y : Int32) (hw : y.toInt < 0 ∨ 6 < y.toInt) : kM l y_M_about (Cond.code y_M_about b_M_about 2 (some FieldType.int) :: TT) (rmL 1) D CL (TY cI cB cZ cJ cN) A [.ref (loc 48), .int y] (dom) loc val (fun rv d lo va kc ns => rv = some (.int (-1)) ∧ (∃ xs9, va 48 = .inr (5, .int 0 :: xs9)) ∧ keepO loc val d lo va ∧ kc = 0 ∧ ns = 0) := by
  refine kM_of (lv0 := [some (.ref (loc 48)), some (.int y)]) (own := "ProsePagesModel") (by decide) rfl (List.forall_mem_cons.mpr ⟨rfl, List.forall_mem_cons.mpr ⟨rfl, fun _ h => nomatch h⟩⟩) (Nat.le_of_ble_eq_true rfl) rfl (Nat.le_of_ble_eq_true rfl) (fun X hl hX hE hin0 => ?_)
  refine v_aload_n hX d_M_about_0 rfl rfl ?_
  refine v_iconst (v := 0) hX d_M_about_1 (by decide) ?_
  refine v_putE hX 48 (fs2 := [.int 0, .ref (loc 49), .ref (loc 50), .ref (loc 51), .ref (loc 52), .ref (loc 53), .ref (loc 54), .ref (loc 55), .ref (loc 56), .int 1, .int 0, .int 0, .ref (loc 57), .ref (loc 58), .ref (loc 59), .ref (loc 60), .ref (loc 61), .ref (loc 62), .int 0, .int 0, .int 0, .int 0, .int 0, .int 0, .ref (loc 63), .ref (loc 64), .ref (loc 65), .ref (loc 66), .ref (loc 67), .ref (loc 68), .ref (loc 69), .ref (loc 70), .ref (loc 71), .ref (loc 72), .int 0, .ref (loc 73), .ref (loc 74), .ref (loc 75), .int 0, .int 0, .int 0, .int 0, .int 0, .int 0, .int 0]) inT5 tyX5 tyX5_ok nmX5 (hd 48 rfl) rfl (hm 48 rfl) rfl 0 (by decide) k_585 rfl rfl rfl rfl rfl (Nat.le_of_ble_eq_true rfl) d_M_about_2 rfl ?_
  refine v_iload_n hX d_M_about_5 rfl rfl ?_
  refine v_tableOut hX d_M_about_6 (tgt := 105) hw (by decide) ?_
  refine v_iconst (v := (-1)) hX d_M_about_105 (by decide) ?_
  exact v_iret hX hE d_M_about_106 (Nat.le_of_ble_eq_true rfl) (Nat.le_of_ble_eq_true rfl) ⟨rfl, ⟨_, rfl⟩, ⟨hd 48 rfl, rfl, hd 76 rfl, rfl, rfl⟩, rfl, rfl⟩
set_option maxHeartbeats 4000000 in
set_option maxRecDepth 100000 in
theorem c_M_empty1 {l : Launch} {D : va_G} {A : Nat → Prop} {cI cB cZ cJ cN : ClassId} {loc : Nat → Nat} {val : Nat → va_E} {dom : Nat → Prop} (hd : ∀ k, (Nat.ble 48 k && Nat.ble (k + 1) 77) = true → dom k)  (h48 : val 48 = .inr (5, [.int 0, .ref (loc 49), .ref (loc 50), .ref (loc 51), .ref (loc 52), .ref (loc 53), .ref (loc 54), .ref (loc 55), .ref (loc 56), .int 1, .int 0, .int 0, .ref (loc 57), .ref (loc 58), .ref (loc 59), .ref (loc 60), .ref (loc 61), .ref (loc 62), .int 0, .int 0, .int 0, .int 0, .int 0, .int 0, .ref (loc 63), .ref (loc 64), .ref (loc 65), .ref (loc 66), .ref (loc 67), .ref (loc 68), .ref (loc 69), .ref (loc 70), .ref (loc 71), .ref (loc 72), .int 0, .ref (loc 73), .ref (loc 74), .ref (loc 75), .int 0, .int 0, .int 0, .int 0, .int 0, .int 0, .int 0])) (h49 : val 49 = .inl (cI, 300, .inl (upd (fun _ => 0) (Int32.toNatClampNeg 0) 11))) (h50 : val 50 = .inl (cI, 300, .inl (upd (fun _ => 0) (Int32.toNatClampNeg 0) (-1)))) (h52 : val 52 = .inl (cI, 300, .inl (upd (fun _ => 0) (Int32.toNatClampNeg 0) 1))) (h55 : val 55 = .inl (cI, 300, .inl (upd (fun _ => 0) (Int32.toNatClampNeg 0) (-1)))) (h51 : val 51 = .inl (cI, 300, .inl (upd (fun _ => 0) (Int32.toNatClampNeg 0) 0))) (h54 : val 54 = .inl (cI, 300, .inl (upd (fun _ => 0) (Int32.toNatClampNeg 0) 0)))  : kM l y_M_empty (Cond.code y_M_empty b_M_empty 1 none :: TT) (rmL 1) D CL (TY cI cB cZ cJ cN) A [.ref (loc 48)] (dom) loc val (fun rv d lo va kc ns => rv = none ∧ dom = d ∧ loc = lo ∧ va_up (va_up (va_up (va_up (va_up (va_up (va_up (va_up (va_up (va_up (va_up (va_up (va_up (va_up (val) 49 (.inl (cI, 300, .inl (upd (upd (fun _ => 0) (Int32.toNatClampNeg 0) 11) (Int32.toNatClampNeg 0) 11)))) 50 (.inl (cI, 300, .inl (upd (upd (fun _ => 0) (Int32.toNatClampNeg 0) (-1)) (Int32.toNatClampNeg 0) (-1))))) 52 (.inl (cI, 300, .inl (upd (upd (fun _ => 0) (Int32.toNatClampNeg 0) 1) (Int32.toNatClampNeg 0) 1)))) 55 (.inl (cI, 300, .inl (upd (upd (fun _ => 0) (Int32.toNatClampNeg 0) (-1)) (Int32.toNatClampNeg 0) (-1))))) 51 (.inl (cI, 300, .inl (upd (upd (fun _ => 0) (Int32.toNatClampNeg 0) 0) (Int32.toNatClampNeg 0) 0)))) 54 (.inl (cI, 300, .inl (upd (upd (fun _ => 0) (Int32.toNatClampNeg 0) 0) (Int32.toNatClampNeg 0) 0)))) 48 (.inr (5, [.int 0, .ref (loc 49), .ref (loc 50), .ref (loc 51), .ref (loc 52), .ref (loc 53), .ref (loc 54), .ref (loc 55), .ref (loc 56), .int 1, .int 0, .int 0, .ref (loc 57), .ref (loc 58), .ref (loc 59), .ref (loc 60), .ref (loc 61), .ref (loc 62), .int 0, .int 0, .int 0, .int 0, .int 0, .int 0, .ref (loc 63), .ref (loc 64), .ref (loc 65), .ref (loc 66), .ref (loc 67), .ref (loc 68), .ref (loc 69), .ref (loc 70), .ref (loc 71), .ref (loc 72), .int 0, .ref (loc 73), .ref (loc 74), .ref (loc 75), .int 0, .int 0, .int 0, .int 0, .int 0, .int 0, .int 0]))) 48 (.inr (5, [.int 0, .ref (loc 49), .ref (loc 50), .ref (loc 51), .ref (loc 52), .ref (loc 53), .ref (loc 54), .ref (loc 55), .ref (loc 56), .int 1, .int 0, .int 0, .ref (loc 57), .ref (loc 58), .ref (loc 59), .ref (loc 60), .ref (loc 61), .ref (loc 62), .int 0, .int 0, .int 0, .int 0, .int 0, .int 0, .ref (loc 63), .ref (loc 64), .ref (loc 65), .ref (loc 66), .ref (loc 67), .ref (loc 68), .ref (loc 69), .ref (loc 70), .ref (loc 71), .ref (loc 72), .int 0, .ref (loc 73), .ref (loc 74), .ref (loc 75), .int 0, .int 0, .int 0, .int 0, .int 0, .int 0, .int 0]))) 48 (.inr (5, [.int 0, .ref (loc 49), .ref (loc 50), .ref (loc 51), .ref (loc 52), .ref (loc 53), .ref (loc 54), .ref (loc 55), .ref (loc 56), .int 1, .int 0, .int 0, .ref (loc 57), .ref (loc 58), .ref (loc 59), .ref (loc 60), .ref (loc 61), .ref (loc 62), .int 0, .int 0, .int 0, .int 0, .int 0, .int 0, .ref (loc 63), .ref (loc 64), .ref (loc 65), .ref (loc 66), .ref (loc 67), .ref (loc 68), .ref (loc 69), .ref (loc 70), .ref (loc 71), .ref (loc 72), .int 0, .ref (loc 73), .ref (loc 74), .ref (loc 75), .int 0, .int 0, .int 0, .int 0, .int 0, .int 0, .int 0]))) 48 (.inr (5, [.int 0, .ref (loc 49), .ref (loc 50), .ref (loc 51), .ref (loc 52), .ref (loc 53), .ref (loc 54), .ref (loc 55), .ref (loc 56), .int 1, .int 0, .int 0, .ref (loc 57), .ref (loc 58), .ref (loc 59), .ref (loc 60), .ref (loc 61), .ref (loc 62), .int 0, .int 0, .int 0, .int 0, .int 0, .int 0, .ref (loc 63), .ref (loc 64), .ref (loc 65), .ref (loc 66), .ref (loc 67), .ref (loc 68), .ref (loc 69), .ref (loc 70), .ref (loc 71), .ref (loc 72), .int 0, .ref (loc 73), .ref (loc 74), .ref (loc 75), .int 0, .int 0, .int 0, .int 0, .int 0, .int 0, .int 0]))) 48 (.inr (5, [.int 0, .ref (loc 49), .ref (loc 50), .ref (loc 51), .ref (loc 52), .ref (loc 53), .ref (loc 54), .ref (loc 55), .ref (loc 56), .int 1, .int 0, .int 0, .ref (loc 57), .ref (loc 58), .ref (loc 59), .ref (loc 60), .ref (loc 61), .ref (loc 62), .int 0, .int 0, .int 0, .int 0, .int 0, .int 0, .ref (loc 63), .ref (loc 64), .ref (loc 65), .ref (loc 66), .ref (loc 67), .ref (loc 68), .ref (loc 69), .ref (loc 70), .ref (loc 71), .ref (loc 72), .int 0, .ref (loc 73), .ref (loc 74), .ref (loc 75), .int 0, .int 0, .int 0, .int 0, .int 0, .int 0, .int 0]))) 48 (.inr (5, [.int 0, .ref (loc 49), .ref (loc 50), .ref (loc 51), .ref (loc 52), .ref (loc 53), .ref (loc 54), .ref (loc 55), .ref (loc 56), .int 1, .int 0, .int 0, .ref (loc 57), .ref (loc 58), .ref (loc 59), .ref (loc 60), .ref (loc 61), .ref (loc 62), .int 0, .int 0, .int 0, .int 0, .int 0, .int 0, .ref (loc 63), .ref (loc 64), .ref (loc 65), .ref (loc 66), .ref (loc 67), .ref (loc 68), .ref (loc 69), .ref (loc 70), .ref (loc 71), .ref (loc 72), .int 0, .ref (loc 73), .ref (loc 74), .ref (loc 75), .int 0, .int 0, .int 0, .int 0, .int 0, .int 0, .int 0]))) 48 (.inr (5, [.int 0, .ref (loc 49), .ref (loc 50), .ref (loc 51), .ref (loc 52), .ref (loc 53), .ref (loc 54), .ref (loc 55), .ref (loc 56), .int 1, .int 0, .int 0, .ref (loc 57), .ref (loc 58), .ref (loc 59), .ref (loc 60), .ref (loc 61), .ref (loc 62), .int 0, .int 0, .int 0, .int 0, .int 0, .int 0, .ref (loc 63), .ref (loc 64), .ref (loc 65), .ref (loc 66), .ref (loc 67), .ref (loc 68), .ref (loc 69), .ref (loc 70), .ref (loc 71), .ref (loc 72), .int 0, .ref (loc 73), .ref (loc 74), .ref (loc 75), .int 0, .int 0, .int 0, .int 0, .int 0, .int 0, .int 0]))) 48 (.inr (5, [.int 0, .ref (loc 49), .ref (loc 50), .ref (loc 51), .ref (loc 52), .ref (loc 53), .ref (loc 54), .ref (loc 55), .ref (loc 56), .int 1, .int 0, .int 0, .ref (loc 57), .ref (loc 58), .ref (loc 59), .ref (loc 60), .ref (loc 61), .ref (loc 62), .int 0, .int 0, .int 0, .int 0, .int 0, .int 0, .ref (loc 63), .ref (loc 64), .ref (loc 65), .ref (loc 66), .ref (loc 67), .ref (loc 68), .ref (loc 69), .ref (loc 70), .ref (loc 71), .ref (loc 72), .int 0, .ref (loc 73), .ref (loc 74), .ref (loc 75), .int 0, .int 0, .int 0, .int 0, .int 0, .int 0, .int 0])) = va ∧ kc = 0 ∧ ns = 0) := by
  refine kM_of (lv0 := [some (.ref (loc 48))]) (own := "ProsePagesModel") (by decide) rfl (List.forall_mem_cons.mpr ⟨rfl, fun _ h => nomatch h⟩) (Nat.le_of_ble_eq_true rfl) rfl (Nat.le_of_ble_eq_true rfl) (fun X hl hX hE hin0 => ?_)
  refine v_aload_n hX d_M_empty_0 rfl rfl ?_
  refine v_get hX 48 (v := .ref (loc 49)) inT5 (hd 48 rfl) rfl h48 rfl 1 (by decide) k_586 rfl rfl d_M_empty_1 ?_
  refine v_iconst (v := 0) hX d_M_empty_4 (by decide) ?_
  refine v_bipush (v := 11) hX d_M_empty_5 (by decide) ?_
  refine v_iast hX 49 0 (hd 49 rfl) rfl h49 rfl (vpb (by decide)) d_M_empty_7 ?_
  refine v_aload_n hX d_M_empty_8 rfl rfl ?_
  refine v_get hX 48 (v := .ref (loc 50)) inT5 (hd 48 rfl) rfl h48 rfl 2 (by decide) k_587 rfl rfl d_M_empty_9 ?_
  refine v_iconst (v := 0) hX d_M_empty_12 (by decide) ?_
  refine v_iconst (v := (-1)) hX d_M_empty_13 (by decide) ?_
  refine v_iast hX 50 0 (hd 50 rfl) rfl h50 rfl (vpb (by decide)) d_M_empty_14 ?_
  refine v_aload_n hX d_M_empty_15 rfl rfl ?_
  refine v_get hX 48 (v := .ref (loc 52)) inT5 (hd 48 rfl) rfl h48 rfl 4 (by decide) k_589 rfl rfl d_M_empty_16 ?_
  refine v_iconst (v := 0) hX d_M_empty_19 (by decide) ?_
  refine v_iconst (v := 1) hX d_M_empty_20 (by decide) ?_
  refine v_iast hX 52 0 (hd 52 rfl) rfl h52 rfl (vpb (by decide)) d_M_empty_21 ?_
  refine v_aload_n hX d_M_empty_22 rfl rfl ?_
  refine v_get hX 48 (v := .ref (loc 55)) inT5 (hd 48 rfl) rfl h48 rfl 7 (by decide) k_592 rfl rfl d_M_empty_23 ?_
  refine v_iconst (v := 0) hX d_M_empty_26 (by decide) ?_
  refine v_iconst (v := (-1)) hX d_M_empty_27 (by decide) ?_
  refine v_iast hX 55 0 (hd 55 rfl) rfl h55 rfl (vpb (by decide)) d_M_empty_28 ?_
  refine v_aload_n hX d_M_empty_29 rfl rfl ?_
  refine v_get hX 48 (v := .ref (loc 51)) inT5 (hd 48 rfl) rfl h48 rfl 3 (by decide) k_588 rfl rfl d_M_empty_30 ?_
  refine v_iconst (v := 0) hX d_M_empty_33 (by decide) ?_
  refine v_iconst (v := 0) hX d_M_empty_34 (by decide) ?_
  refine v_iast hX 51 0 (hd 51 rfl) rfl h51 rfl (vpb (by decide)) d_M_empty_35 ?_
  refine v_aload_n hX d_M_empty_36 rfl rfl ?_
  refine v_get hX 48 (v := .ref (loc 54)) inT5 (hd 48 rfl) rfl h48 rfl 6 (by decide) k_591 rfl rfl d_M_empty_37 ?_
  refine v_iconst (v := 0) hX d_M_empty_40 (by decide) ?_
  refine v_iconst (v := 0) hX d_M_empty_41 (by decide) ?_
  refine v_iast hX 54 0 (hd 54 rfl) rfl h54 rfl (vpb (by decide)) d_M_empty_42 ?_
  refine v_aload_n hX d_M_empty_43 rfl rfl ?_
  refine v_iconst (v := 1) hX d_M_empty_44 (by decide) ?_
  refine v_putE hX 48 (fs2 := [.int 0, .ref (loc 49), .ref (loc 50), .ref (loc 51), .ref (loc 52), .ref (loc 53), .ref (loc 54), .ref (loc 55), .ref (loc 56), .int 1, .int 0, .int 0, .ref (loc 57), .ref (loc 58), .ref (loc 59), .ref (loc 60), .ref (loc 61), .ref (loc 62), .int 0, .int 0, .int 0, .int 0, .int 0, .int 0, .ref (loc 63), .ref (loc 64), .ref (loc 65), .ref (loc 66), .ref (loc 67), .ref (loc 68), .ref (loc 69), .ref (loc 70), .ref (loc 71), .ref (loc 72), .int 0, .ref (loc 73), .ref (loc 74), .ref (loc 75), .int 0, .int 0, .int 0, .int 0, .int 0, .int 0, .int 0]) inT5 tyX5 tyX5_ok nmX5 (hd 48 rfl) rfl h48 rfl 9 (by decide) k_594 rfl rfl rfl rfl rfl (Nat.le_of_ble_eq_true rfl) d_M_empty_45 rfl ?_
  refine v_aload_n hX d_M_empty_48 rfl rfl ?_
  refine v_iconst (v := 0) hX d_M_empty_49 (by decide) ?_
  refine v_putE hX 48 (fs2 := [.int 0, .ref (loc 49), .ref (loc 50), .ref (loc 51), .ref (loc 52), .ref (loc 53), .ref (loc 54), .ref (loc 55), .ref (loc 56), .int 1, .int 0, .int 0, .ref (loc 57), .ref (loc 58), .ref (loc 59), .ref (loc 60), .ref (loc 61), .ref (loc 62), .int 0, .int 0, .int 0, .int 0, .int 0, .int 0, .ref (loc 63), .ref (loc 64), .ref (loc 65), .ref (loc 66), .ref (loc 67), .ref (loc 68), .ref (loc 69), .ref (loc 70), .ref (loc 71), .ref (loc 72), .int 0, .ref (loc 73), .ref (loc 74), .ref (loc 75), .int 0, .int 0, .int 0, .int 0, .int 0, .int 0, .int 0]) inT5 tyX5 tyX5_ok nmX5 (hd 48 rfl) rfl rfl rfl 10 (by decide) k_595 rfl rfl rfl rfl rfl (Nat.le_of_ble_eq_true rfl) d_M_empty_50 rfl ?_
  refine v_aload_n hX d_M_empty_53 rfl rfl ?_
  refine v_iconst (v := 0) hX d_M_empty_54 (by decide) ?_
  refine v_putE hX 48 (fs2 := [.int 0, .ref (loc 49), .ref (loc 50), .ref (loc 51), .ref (loc 52), .ref (loc 53), .ref (loc 54), .ref (loc 55), .ref (loc 56), .int 1, .int 0, .int 0, .ref (loc 57), .ref (loc 58), .ref (loc 59), .ref (loc 60), .ref (loc 61), .ref (loc 62), .int 0, .int 0, .int 0, .int 0, .int 0, .int 0, .ref (loc 63), .ref (loc 64), .ref (loc 65), .ref (loc 66), .ref (loc 67), .ref (loc 68), .ref (loc 69), .ref (loc 70), .ref (loc 71), .ref (loc 72), .int 0, .ref (loc 73), .ref (loc 74), .ref (loc 75), .int 0, .int 0, .int 0, .int 0, .int 0, .int 0, .int 0]) inT5 tyX5 tyX5_ok nmX5 (hd 48 rfl) rfl rfl rfl 11 (by decide) k_596 rfl rfl rfl rfl rfl (Nat.le_of_ble_eq_true rfl) d_M_empty_55 rfl ?_
  refine v_aload_n hX d_M_empty_58 rfl rfl ?_
  refine v_iconst (v := 0) hX d_M_empty_59 (by decide) ?_
  refine v_putE hX 48 (fs2 := [.int 0, .ref (loc 49), .ref (loc 50), .ref (loc 51), .ref (loc 52), .ref (loc 53), .ref (loc 54), .ref (loc 55), .ref (loc 56), .int 1, .int 0, .int 0, .ref (loc 57), .ref (loc 58), .ref (loc 59), .ref (loc 60), .ref (loc 61), .ref (loc 62), .int 0, .int 0, .int 0, .int 0, .int 0, .int 0, .ref (loc 63), .ref (loc 64), .ref (loc 65), .ref (loc 66), .ref (loc 67), .ref (loc 68), .ref (loc 69), .ref (loc 70), .ref (loc 71), .ref (loc 72), .int 0, .ref (loc 73), .ref (loc 74), .ref (loc 75), .int 0, .int 0, .int 0, .int 0, .int 0, .int 0, .int 0]) inT5 tyX5 tyX5_ok nmX5 (hd 48 rfl) rfl rfl rfl 19 (by decide) k_604 rfl rfl rfl rfl rfl (Nat.le_of_ble_eq_true rfl) d_M_empty_60 rfl ?_
  refine v_aload_n hX d_M_empty_63 rfl rfl ?_
  refine v_iconst (v := 0) hX d_M_empty_64 (by decide) ?_
  refine v_putE hX 48 (fs2 := [.int 0, .ref (loc 49), .ref (loc 50), .ref (loc 51), .ref (loc 52), .ref (loc 53), .ref (loc 54), .ref (loc 55), .ref (loc 56), .int 1, .int 0, .int 0, .ref (loc 57), .ref (loc 58), .ref (loc 59), .ref (loc 60), .ref (loc 61), .ref (loc 62), .int 0, .int 0, .int 0, .int 0, .int 0, .int 0, .ref (loc 63), .ref (loc 64), .ref (loc 65), .ref (loc 66), .ref (loc 67), .ref (loc 68), .ref (loc 69), .ref (loc 70), .ref (loc 71), .ref (loc 72), .int 0, .ref (loc 73), .ref (loc 74), .ref (loc 75), .int 0, .int 0, .int 0, .int 0, .int 0, .int 0, .int 0]) inT5 tyX5 tyX5_ok nmX5 (hd 48 rfl) rfl rfl rfl 18 (by decide) k_603 rfl rfl rfl rfl rfl (Nat.le_of_ble_eq_true rfl) d_M_empty_65 rfl ?_
  refine v_aload_n hX d_M_empty_68 rfl rfl ?_
  refine v_iconst (v := 0) hX d_M_empty_69 (by decide) ?_
  refine v_putE hX 48 (fs2 := [.int 0, .ref (loc 49), .ref (loc 50), .ref (loc 51), .ref (loc 52), .ref (loc 53), .ref (loc 54), .ref (loc 55), .ref (loc 56), .int 1, .int 0, .int 0, .ref (loc 57), .ref (loc 58), .ref (loc 59), .ref (loc 60), .ref (loc 61), .ref (loc 62), .int 0, .int 0, .int 0, .int 0, .int 0, .int 0, .ref (loc 63), .ref (loc 64), .ref (loc 65), .ref (loc 66), .ref (loc 67), .ref (loc 68), .ref (loc 69), .ref (loc 70), .ref (loc 71), .ref (loc 72), .int 0, .ref (loc 73), .ref (loc 74), .ref (loc 75), .int 0, .int 0, .int 0, .int 0, .int 0, .int 0, .int 0]) inT5 tyX5 tyX5_ok nmX5 (hd 48 rfl) rfl rfl rfl 20 (by decide) k_605 rfl rfl rfl rfl rfl (Nat.le_of_ble_eq_true rfl) d_M_empty_70 rfl ?_
  refine v_aload_n hX d_M_empty_73 rfl rfl ?_
  refine v_iconst (v := 0) hX d_M_empty_74 (by decide) ?_
  refine v_putE hX 48 (fs2 := [.int 0, .ref (loc 49), .ref (loc 50), .ref (loc 51), .ref (loc 52), .ref (loc 53), .ref (loc 54), .ref (loc 55), .ref (loc 56), .int 1, .int 0, .int 0, .ref (loc 57), .ref (loc 58), .ref (loc 59), .ref (loc 60), .ref (loc 61), .ref (loc 62), .int 0, .int 0, .int 0, .int 0, .int 0, .int 0, .ref (loc 63), .ref (loc 64), .ref (loc 65), .ref (loc 66), .ref (loc 67), .ref (loc 68), .ref (loc 69), .ref (loc 70), .ref (loc 71), .ref (loc 72), .int 0, .ref (loc 73), .ref (loc 74), .ref (loc 75), .int 0, .int 0, .int 0, .int 0, .int 0, .int 0, .int 0]) inT5 tyX5 tyX5_ok nmX5 (hd 48 rfl) rfl rfl rfl 21 (by decide) k_606 rfl rfl rfl rfl rfl (Nat.le_of_ble_eq_true rfl) d_M_empty_75 rfl ?_
  refine v_aload_n hX d_M_empty_78 rfl rfl ?_
  refine v_iconst (v := 0) hX d_M_empty_79 (by decide) ?_
  refine v_putE hX 48 (fs2 := [.int 0, .ref (loc 49), .ref (loc 50), .ref (loc 51), .ref (loc 52), .ref (loc 53), .ref (loc 54), .ref (loc 55), .ref (loc 56), .int 1, .int 0, .int 0, .ref (loc 57), .ref (loc 58), .ref (loc 59), .ref (loc 60), .ref (loc 61), .ref (loc 62), .int 0, .int 0, .int 0, .int 0, .int 0, .int 0, .ref (loc 63), .ref (loc 64), .ref (loc 65), .ref (loc 66), .ref (loc 67), .ref (loc 68), .ref (loc 69), .ref (loc 70), .ref (loc 71), .ref (loc 72), .int 0, .ref (loc 73), .ref (loc 74), .ref (loc 75), .int 0, .int 0, .int 0, .int 0, .int 0, .int 0, .int 0]) inT5 tyX5 tyX5_ok nmX5 (hd 48 rfl) rfl rfl rfl 22 (by decide) k_607 rfl rfl rfl rfl rfl (Nat.le_of_ble_eq_true rfl) d_M_empty_80 rfl ?_
  exact v_vret hX hE d_M_empty_83 (Nat.le_of_ble_eq_true rfl) (Nat.le_of_ble_eq_true rfl) ⟨rfl, rfl, rfl, rfl, rfl, rfl⟩
set_option maxHeartbeats 4000000 in
set_option maxRecDepth 100000 in
theorem c_M_clear {l : Launch} {D : va_G} {A : Nat → Prop} {cI cB cZ cJ cN : ClassId} {dom : Nat → Prop} (hd : ∀ k, (Nat.ble 48 k && Nat.ble (k + 1) 77) = true → dom k) {loc : Nat → Nat} {val : Nat → va_E} (hm : ∀ k, (Nat.ble 48 k && Nat.ble (k + 1) 76) = true → val k = mcell cI cB cZ loc k)  : kM l y_M_clear (Cond.code y_M_clear b_M_clear 1 none :: TT) (rmL 2) D CL (TY cI cB cZ cJ cN) A [.ref (loc 48)] (dom) loc val (fun rv d lo va kc ns => rv = none ∧ (∃ xs9, va 48 = .inr (5, .int 0 :: xs9)) ∧ keepO loc val d lo va ∧ kc = 0 ∧ ns = 0) := by
  refine kM_of (lv0 := [some (.ref (loc 48))]) (own := "ProsePagesModel") (by decide) rfl (List.forall_mem_cons.mpr ⟨rfl, fun _ h => nomatch h⟩) (Nat.le_of_ble_eq_true rfl) rfl (Nat.le_of_ble_eq_true rfl) (fun X hl hX hE hin0 => ?_)
  refine v_aload_n hX d_M_clear_0 rfl rfl ?_
  refine v_iconst (v := 0) hX d_M_clear_1 (by decide) ?_
  refine v_putE hX 48 (fs2 := [.int 0, .ref (loc 49), .ref (loc 50), .ref (loc 51), .ref (loc 52), .ref (loc 53), .ref (loc 54), .ref (loc 55), .ref (loc 56), .int 1, .int 0, .int 0, .ref (loc 57), .ref (loc 58), .ref (loc 59), .ref (loc 60), .ref (loc 61), .ref (loc 62), .int 0, .int 0, .int 0, .int 0, .int 0, .int 0, .ref (loc 63), .ref (loc 64), .ref (loc 65), .ref (loc 66), .ref (loc 67), .ref (loc 68), .ref (loc 69), .ref (loc 70), .ref (loc 71), .ref (loc 72), .int 0, .ref (loc 73), .ref (loc 74), .ref (loc 75), .int 0, .int 0, .int 0, .int 0, .int 0, .int 0, .int 0]) inT5 tyX5 tyX5_ok nmX5 (hd 48 rfl) rfl (hm 48 rfl) rfl 0 (by decide) k_585 rfl rfl rfl rfl rfl (Nat.le_of_ble_eq_true rfl) d_M_clear_2 rfl ?_
  refine v_aload_n hX d_M_clear_5 rfl rfl ?_
  refine c_V hX 48 (rest := []) hl (c_M_empty1 hd  rfl (hm 49 rfl) (hm 50 rfl) (hm 52 rfl) (hm 55 rfl) (hm 51 rfl) (hm 54 rfl) ) k_581 k_583 kp_27 k_6 k_584 rfl q_M_empty ⟨(Nat.le_of_ble_eq_true rfl), (Nat.le_of_ble_eq_true rfl)⟩ (hd 48 rfl) rfl rfl rfl rfl rfl rfl (Nat.le_of_ble_eq_true rfl) d_M_clear_6 ⟨(Nat.le_of_ble_eq_true rfl), (Nat.le_of_ble_eq_true rfl)⟩ (fun rv d2 lo2 va2 kc ns hp => ?_)
  obtain ⟨rfl, rfl, rfl, rfl, rfl, rfl⟩ := hp
  show V X D CL A _ _ _ _ _ _ _ []
  exact v_vret hX hE d_M_clear_9 (Nat.le_of_ble_eq_true rfl) (Nat.le_of_ble_eq_true rfl) ⟨rfl, ⟨_, rfl⟩, ⟨hd 48 rfl, rfl, hd 76 rfl, rfl, rfl⟩, rfl, rfl⟩
