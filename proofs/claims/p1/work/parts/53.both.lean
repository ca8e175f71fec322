theorem c_P_begin_good {l : Launch} {D : va_G} {A : Nat → Prop} {cI cB cZ cJ cN : ClassId} {loc : Nat → Nat} {val : Nat → va_E} (hv : ∀ k, Nat.ble (k + 1) 48 = true → val k = pcell cI cN loc k) (k n : Int32) (h : gB k n) : kM l y_P_begin (Cond.code y_P_begin b_P_begin 4 (some FieldType.int) :: TT) (rmL 3) D CL (TY cI cB cZ cJ cN) A [.ref (loc 0), .int k, .int n] (kd 77) loc val (PB loc val 1 12) := by
  obtain ⟨h, hn⟩ := h
  rcases h with rfl | rfl | rfl | rfl | rfl | rfl | rfl
  · exact c_P_begin_ok0 hv n hn
  · exact c_P_begin_ok1 hv n hn
  · exact c_P_begin_ok2 hv n hn
  · exact c_P_begin_ok3 hv n hn
  · exact c_P_begin_ok4 hv n hn
  · exact c_P_begin_ok5 hv n hn
  · exact c_P_begin_ok6 hv n hn
theorem t_P_begin_bad {l : Launch} {D : va_G} {A : Nat → Prop} {cI cB cZ cJ cN : ClassId} {loc : Nat → Nat} {val : Nat → va_E} (hv : ∀ k, Nat.ble (k + 1) 48 = true → val k = pcell cI cN loc k) (k n : Int32) (h : bB k n) (htr : l.stackTraces = false) : kMT l y_P_begin (Cond.code y_P_begin b_P_begin 4 (some FieldType.int) :: TT) (rmL 3) D CL (TY cI cB cZ cJ cN) A [.ref (loc 0), .int k, .int n] (kd 77) loc val "java/lang/IllegalArgumentException" := by
  rcases h with h | ⟨h0, h⟩ | rfl | rfl | rfl | ⟨rfl, h⟩ | ⟨rfl, h⟩
  · exact t_P_begin_badlt hv k n h htr
  · exact t_P_begin_badgt hv k n h0 h htr
  · exact t_P_begin_bad7 hv n htr
  · exact t_P_begin_bad8 hv n htr
  · exact t_P_begin_bad9 hv n htr
  · exact t_P_begin_bad1 hv n h htr
  · exact t_P_begin_bad6 hv n h htr
theorem c_M_begin_good {l : Launch} {D : va_G} {A : Nat → Prop} {cI cB cZ cJ cN : ClassId} {dom : Nat → Prop} (hd : ∀ k, (Nat.ble 48 k && Nat.ble (k + 1) 77) = true → dom k) {loc : Nat → Nat} {val : Nat → va_E} (hm : ∀ k, (Nat.ble 48 k && Nat.ble (k + 1) 76) = true → val k = mcell cI cB cZ loc k) (k n : Int32) (h : gB k n) : kM l y_M_begin (Cond.code y_M_begin b_M_begin 5 (some FieldType.int) :: TT) (rmL 3) D CL (TY cI cB cZ cJ cN) A [.ref (loc 48), .int k, .int n] dom loc val (PM loc val (some (.int 1)) 0) := by
  obtain ⟨h, hn⟩ := h
  rcases h with rfl | rfl | rfl | rfl | rfl | rfl | rfl
  · exact c_M_begin_ok0 hd hm n hn
  · exact c_M_begin_ok1 hd hm n hn
  · exact c_M_begin_ok2 hd hm n hn
  · exact c_M_begin_ok3 hd hm n hn
  · exact c_M_begin_ok4 hd hm n hn
  · exact c_M_begin_ok5 hd hm n hn
  · exact c_M_begin_ok6 hd hm n hn
theorem c_M_begin_bad {l : Launch} {D : va_G} {A : Nat → Prop} {cI cB cZ cJ cN : ClassId} {dom : Nat → Prop} (hd : ∀ k, (Nat.ble 48 k && Nat.ble (k + 1) 77) = true → dom k) {loc : Nat → Nat} {val : Nat → va_E} (hm : ∀ k, (Nat.ble 48 k && Nat.ble (k + 1) 76) = true → val k = mcell cI cB cZ loc k) (k n : Int32) (h : bB k n) : kM l y_M_begin (Cond.code y_M_begin b_M_begin 5 (some FieldType.int) :: TT) (rmL 3) D CL (TY cI cB cZ cJ cN) A [.ref (loc 48), .int k, .int n] dom loc val (PM loc val (some (.int 0)) 2) := by
  rcases h with h | ⟨h0, h⟩ | rfl | rfl | rfl | ⟨rfl, h⟩ | ⟨rfl, h⟩
  · exact c_M_begin_badlt hd hm k n h
  · exact c_M_begin_badgt hd hm k n h0 h
  · exact c_M_begin_bad7 hd hm n
  · exact c_M_begin_bad8 hd hm n
  · exact c_M_begin_bad9 hd hm n
  · exact c_M_begin_bad1 hd hm n h
  · exact c_M_begin_bad6 hd hm n h
theorem c_P_find_all {l : Launch} {D : va_G} {A : Nat → Prop} {cI cB cZ cJ cN : ClassId} {loc : Nat → Nat} {val : Nat → va_E} (hv : ∀ k, Nat.ble (k + 1) 48 = true → val k = pcell cI cN loc k) (x : Int32) : kM l y_P_find (Cond.code y_P_find b_P_find 3 (some FieldType.int) :: TT) (rmL 2) D CL (TY cI cB cZ cJ cN) A [.ref (loc 0), .int x] (kd 77) loc val (PR loc val (-1)) := by
  by_cases h : x < 0
  · exact c_P_find_neg hv x h
  by_cases h1 : 1 ≤ x
  · exact c_P_find_ge hv x h h1
  obtain rfl := i32_0 h h1
  exact c_P_find_0 hv
theorem b_node {l : Launch} {D : va_G} {A : Nat → Prop} {cI cB cZ cJ cN : ClassId} {loc : Nat → Nat} {val : Nat → va_E} (hv : ∀ k, Nat.ble (k + 1) 48 = true → val k = pcell cI cN loc k) (x y : Int32) : ∃ v : Int32, kM l y_P_node (Cond.code y_P_node b_P_node 4 (some FieldType.int) :: TT) (rmL 2) D CL (TY cI cB cZ cJ cN) A [.ref (loc 0), .int x, .int y] (kd 77) loc val (PR loc val v) ∧ ∀ {dom : Nat → Prop} (hd : ∀ k, (Nat.ble 48 k && Nat.ble (k + 1) 77) = true → dom k) {loc2 : Nat → Nat} {val2 : Nat → va_E} (hm : ∀ k, (Nat.ble 48 k && Nat.ble (k + 1) 76) = true → val2 k = mcell cI cB cZ loc2 k), kM l y_M_node (Cond.code y_M_node b_M_node 3 (some FieldType.int) :: TT) (rmL 1) D CL (TY cI cB cZ cJ cN) A [.ref (loc2 48), .int x, .int y] dom loc2 val2 (PM loc2 val2 (some (.int v)) 0) := by
  by_cases h : x < 0
  · exact ⟨-1, c_P_node_neg hv x h y, fun hd _ _ hm => c_M_node_neg hd hm x y h⟩
  by_cases h1 : 1 ≤ x
  · exact ⟨-1, c_P_node_ge hv x h h1 y, fun hd _ _ hm => c_M_node_ge hd hm x y h h1⟩
  obtain rfl := i32_0 h h1
  by_cases hw : y.toInt < 0 ∨ 2 < y.toInt
  · exact ⟨-1, c_P_node_0_x hv y hw, fun hd _ _ hm => c_M_node_0_x hd hm y hw⟩
  obtain ⟨i, hi, hy⟩ := sw_cases 2 hw
  match i, hi, hy with
  | 0, _, hy =>
    obtain rfl : y = 0 := i32_of hy (by decide)
    exact ⟨(-1), c_P_node_0_0 hv, fun hd _ _ hm => c_M_node_0_0 hd hm⟩
  | 1, _, hy =>
    obtain rfl : y = 1 := i32_of hy (by decide)
    exact ⟨(-1), c_P_node_0_1 hv, fun hd _ _ hm => c_M_node_0_1 hd hm⟩
  | 2, _, hy =>
    obtain rfl : y = 2 := i32_of hy (by decide)
    exact ⟨0, c_P_node_0_2 hv, fun hd _ _ hm => c_M_node_0_2 hd hm⟩
  | i + 3, hi, _ => exact absurd hi (by omega)
theorem b_about {l : Launch} {D : va_G} {A : Nat → Prop} {cI cB cZ cJ cN : ClassId} {loc : Nat → Nat} {val : Nat → va_E} (hv : ∀ k, Nat.ble (k + 1) 48 = true → val k = pcell cI cN loc k) (y : Int32) : ∃ v : Int32, kM l y_P_about (Cond.code y_P_about b_P_about 2 (some FieldType.int) :: TT) (rmL 1) D CL (TY cI cB cZ cJ cN) A [.ref (loc 0), .int y] (kd 77) loc val (PR loc val v) ∧ ∀ {dom : Nat → Prop} (hd : ∀ k, (Nat.ble 48 k && Nat.ble (k + 1) 77) = true → dom k) {loc2 : Nat → Nat} {val2 : Nat → va_E} (hm : ∀ k, (Nat.ble 48 k && Nat.ble (k + 1) 76) = true → val2 k = mcell cI cB cZ loc2 k), kM l y_M_about (Cond.code y_M_about b_M_about 2 (some FieldType.int) :: TT) (rmL 1) D CL (TY cI cB cZ cJ cN) A [.ref (loc2 48), .int y] dom loc2 val2 (PM loc2 val2 (some (.int v)) 0) := by
  by_cases hw : y.toInt < 0 ∨ 6 < y.toInt
  · exact ⟨-1, c_P_about_x hv y hw, fun hd _ _ hm => c_M_about_x hd hm y hw⟩
  obtain ⟨i, hi, hy⟩ := sw_cases 6 hw
  match i, hi, hy with
  | 0, _, hy =>
    obtain rfl : y = 0 := i32_of hy (by decide)
    exact ⟨1, c_P_about_0 hv, fun hd _ _ hm => c_M_about_0 hd hm⟩
  | 1, _, hy =>
    obtain rfl : y = 1 := i32_of hy (by decide)
    exact ⟨0, c_P_about_1 hv, fun hd _ _ hm => c_M_about_1 hd hm⟩
  | 2, _, hy =>
    obtain rfl : y = 2 := i32_of hy (by decide)
    exact ⟨0, c_P_about_2 hv, fun hd _ _ hm => c_M_about_2 hd hm⟩
  | 3, _, hy =>
    obtain rfl : y = 3 := i32_of hy (by decide)
    exact ⟨0, c_P_about_3 hv, fun hd _ _ hm => c_M_about_3 hd hm⟩
  | 4, _, hy =>
    obtain rfl : y = 4 := i32_of hy (by decide)
    exact ⟨0, c_P_about_4 hv, fun hd _ _ hm => c_M_about_4 hd hm⟩
  | 5, _, hy =>
    obtain rfl : y = 5 := i32_of hy (by decide)
    exact ⟨0, c_P_about_5 hv, fun hd _ _ hm => c_M_about_5 hd hm⟩
  | 6, _, hy =>
    obtain rfl : y = 6 := i32_of hy (by decide)
    exact ⟨0, c_P_about_6 hv, fun hd _ _ hm => c_M_about_6 hd hm⟩
  | i + 7, hi, _ => exact absurd hi (by omega)
theorem mcell_congr {cI cB cZ : ClassId} {lo loc : Nat → Nat} (h : ∀ k, (Nat.ble 48 k && Nat.ble (k + 1) 76) = true → lo k = loc k) (k : Nat) : mcell cI cB cZ lo k = mcell cI cB cZ loc k := by
  unfold mcell mlist
  rw [h 49 rfl, h 50 rfl, h 51 rfl, h 52 rfl, h 53 rfl, h 54 rfl, h 55 rfl, h 56 rfl, h 57 rfl, h 58 rfl, h 59 rfl, h 60 rfl, h 61 rfl, h 62 rfl, h 63 rfl, h 64 rfl, h 65 rfl, h 66 rfl, h 67 rfl, h 68 rfl, h 69 rfl, h 70 rfl, h 71 rfl, h 72 rfl, h 73 rfl, h 74 rfl, h 75 rfl]
theorem keepM.hm {cI cB cZ : ClassId} {loc : Nat → Nat} {val : Nat → va_E} {d : Nat → Prop} {lo : Nat → Nat} {va : Nat → va_E} (hk : ∀ k, (Nat.ble 48 k && Nat.ble (k + 1) 76) = true → d k ∧ lo k = loc k ∧ va k = val k) (hm : ∀ k, (Nat.ble 48 k && Nat.ble (k + 1) 76) = true → val k = mcell cI cB cZ loc k) : ∀ k, (Nat.ble 48 k && Nat.ble (k + 1) 76) = true → va k = mcell cI cB cZ lo k := fun k h => ((hk k h).2.2.trans (hm k h)).trans (mcell_congr (fun k h => (hk k h).2.1) k).symm
theorem keepM.L {loc : Nat → Nat} {val : Nat → va_E} {d : Nat → Prop} {lo : Nat → Nat} {va : Nat → va_E} (hk : keepM loc val d lo va) : keepL loc val d lo va := fun k h => hk k (b76 h).1
theorem keepL.hd {loc : Nat → Nat} {val : Nat → va_E} {d : Nat → Prop} {lo : Nat → Nat} {va : Nat → va_E} (hk : keepL loc val d lo va) (h76 : d 76) : ∀ k, (Nat.ble 48 k && Nat.ble (k + 1) 77) = true → d k := fun k h => by
  by_cases h9 : k = 76
  · rw [h9]; exact h76
  · rw [Bool.and_eq_true] at h
    have h1 := Nat.le_of_ble_eq_true h.1
    have h2 := Nat.le_of_ble_eq_true h.2
    exact (hk k (by rw [Bool.and_eq_true]; exact ⟨h.1, Nat.ble_eq_true_of_le (by omega)⟩)).1
theorem pcell_congr {cI cN : ClassId} {lo loc : Nat → Nat} (h : ∀ k, Nat.ble (k + 1) 48 = true → lo k = loc k) (k : Nat) : pcell cI cN lo k = pcell cI cN loc k := by
  unfold pcell plist
  rw [h 1 rfl, h 2 rfl, h 3 rfl, h 4 rfl, h 5 rfl, h 6 rfl, h 7 rfl, h 8 rfl, h 9 rfl, h 10 rfl, h 11 rfl, h 12 rfl, h 13 rfl, h 14 rfl, h 15 rfl, h 16 rfl, h 17 rfl, h 18 rfl, h 19 rfl, h 20 rfl, h 21 rfl, h 22 rfl, h 23 rfl, h 24 rfl, h 25 rfl, h 26 rfl, h 27 rfl, h 28 rfl, h 29 rfl, h 30 rfl, h 31 rfl, h 32 rfl, h 33 rfl, h 34 rfl, h 35 rfl, h 36 rfl, h 37 rfl, h 38 rfl, h 39 rfl, h 40 rfl, h 41 rfl, h 42 rfl, h 43 rfl, h 44 rfl, h 45 rfl, h 46 rfl, h 47 rfl]
theorem i32_8 {c : Int32} (h : ¬ c < 8) : 4 ≤ c := by
  have a8 : (8 : Int32).toInt = 8 := by decide
  have a4 : (4 : Int32).toInt = 4 := by decide
  have h1 : ¬ c.toInt < 8 := fun z => h (Int32.lt_iff_toInt_lt.mpr (by rw [a8]; exact z))
  exact Int32.le_iff_toInt_le.mpr (by rw [a4]; omega)
