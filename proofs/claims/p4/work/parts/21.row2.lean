section KRx
variable {l : Launch} {D : va_G} {A : Nat → Prop} {dom : Nat → Prop} {loc : Nat → Nat} {val : Nat → va_E} {cI cB cZ cJ cN : ClassId}
abbrev rmR : Room := { frames := 17, cells := 20, slots := 700000, locals := 500 }
theorem nI_mul2 (a : Nat) : nI a * 2 = nI (a * 2) := (Int32.ofNat_mul a 2).symm
/-- how a Row grows: what was made is paid by twice the array's length -/
def grown (cap cap' kc ns : Nat) : Prop := cap ≤ cap' ∧ ns + 2 * cap ≤ 2 * cap' ∧ 16 * kc + 2 * cap ≤ 2 * cap'
abbrev PAdd (cI : ClassId) (dom : Nat → Prop) (loc : Nat → Nat) (val : Nat → va_E) (j cap sz' mx : Nat) : kT := fun rv d lo va kc ns => rv = none ∧ dom = d ∧ (∃ cap', rowOK cI lo va j sz' cap' ∧ cap' ≤ 2 * mx ∧ grown cap cap' kc ns) ∧ frR j loc val lo va
/-- behind Arrays.copyOf and the put of its copy: the copy is the Row's array -/
theorem row_mv {X : KX} {cl : List vw_C} {cells slots pc : Nat} {lv : List (Option Value)} {st : List Value} (j q : Nat) (e : va_E) (fs : va_E) (hj2 : dom (j + 1)) (hj3 : j + 1 < 2000) (hn : ¬ dom 2000)
    (kk : ∀ (lo : Nat → Nat) (va : Nat → va_E), lo (j + 1) = q → lo j = loc j → va j = fs → va (j + 1) = e → (∀ k, k ≠ j → k ≠ j + 1 → k ≠ 2000 → lo k = loc k ∧ va k = val k) → V X D cl A dom lo va cells slots pc lv st) : V X D cl A (fun k => k = 2000 ∨ dom k) (va_up loc 2000 q) (va_up (va_up val 2000 e) j fs) cells slots pc lv st := by
  refine v_mv (t := 2000) (j := j + 1) (Or.inl rfl) (by omega) (dom2 := dom) (fun k => ⟨fun h => Or.inr ⟨Or.inr h, fun z => hn (z ▸ h)⟩, fun h => h.elim (fun z => z ▸ hj2) (fun z => z.1.resolve_left z.2)⟩) rfl rfl ?_
  refine kk _ _ (kup_self.trans kup_self) (kup_ne (by omega) (kup_ne (by omega) rfl)) (kup_ne (by omega) kup_self) (kup_self.trans (kup_ne (by omega) kup_self)) (fun k h1 h2 h3 => ⟨kup_ne h2 (kup_ne h3 rfl), kup_ne h2 (kup_ne h1 (kup_ne h3 rfl))⟩)
set_option maxHeartbeats 4000000 in
set_option maxRecDepth 100000 in
theorem c_R_add (j sz cap mx : Nat) (x : Int32) (hj : dom j) (hj2 : dom (j + 1)) (hj3 : j + 1 < 2000) (hn : ¬ dom 2000) (h : rowOK cI loc val j sz cap) (hm : sz + 1 ≤ mx) (hc : cap ≤ 2 * mx) (hx : 2 * mx ≤ 640000) :
    kM l y_R_add (Cond.code y_R_add b_R_add 2 none :: TT) rmR D CL (TY cI cB cZ cJ cN) A [.ref (loc j), .int x] dom loc val (PAdd cI dom loc val j cap (sz + 1) mx) := by
  obtain ⟨f, h1, h2, h3, h4, h5⟩ := h
  refine kM_of (lv0 := [some (.ref (loc j)), some (.int x)]) (own := "ProsePages$Row") (by decide) rfl (List.forall_mem_cons.mpr ⟨rfl, List.forall_mem_cons.mpr ⟨rfl, fun _ h => nomatch h⟩⟩) (Nat.le_of_ble_eq_true rfl) rfl (Nat.le_of_ble_eq_true rfl) (fun X hl hX hE hin0 => ?_)
  have tail : ∀ (lo : Nat → Nat) (va : Nat → va_E) (c1 s1 cap1 : Nat) (f1 : Nat → Int32), lo j = loc j → va j = .inr (1, [.ref (lo (j + 1)), .int (nI sz)]) → va (j + 1) = .inl (cI, cap1, .inl f1) → sz < cap1 → cap1 ≤ 2 * mx → (∀ k, k ≠ j → k ≠ j + 1 → k ≠ 2000 → lo k = loc k ∧ va k = val k) → grown cap cap1 c1 s1 → c1 ≤ 20 → s1 ≤ 700000 → V X D CL A dom lo va c1 s1 29 [some (.ref (loc j)), some (.int x)] [] := by
    intro lo va c1 s1 cap1 f1 e1 g1 g2 hs1 hm1 hfr hg hc1 hs
    refine v_aload_n hX d_R_add_29 rfl rfl ?_
    refine v_get hX j (v := .ref (lo (j + 1))) inT1 hj e1 g1 rfl 0 (by decide) fl_R_9 rfl rfl d_R_add_30 ?_
    refine v_aload_n hX d_R_add_33 rfl rfl ?_
    refine v_get hX j (v := .int (nI sz)) inT1 hj e1 g1 rfl 1 (by decide) fl_R_15 rfl rfl d_R_add_34 ?_
    refine v_iload_n hX d_R_add_37 rfl rfl ?_
    refine v_iast hX (j + 1) 0 hj2 rfl g2 rfl (vp_in_nI hs1 (by omega)) d_R_add_38 ?_
    refine v_aload_n hX d_R_add_39 rfl rfl ?_
    refine v_dup hX d_R_add_40 rfl ?_
    refine v_get hX j (v := .int (nI sz)) inT1 hj e1 (kup_ne (by omega) g1) rfl 1 (by decide) fl_R_15 rfl rfl d_R_add_41 ?_
    refine v_iconst (v := 1) hX d_R_add_44 (by decide) ?_
    refine v_iaddE (v := nI (sz + 1)) hX d_R_add_45 (nI_1 sz) ?_
    refine v_putE hX j (fs2 := [.ref (lo (j + 1)), .int (nI (sz + 1))]) inT1 tyX1 tyX1_ok nmX1 hj e1 (kup_ne (by omega) g1) rfl 1 (by decide) fl_R_15 rfl rfl rfl rfl rfl (Nat.le_of_ble_eq_true rfl) d_R_add_46 rfl ?_
    exact v_vret hX hE d_R_add_49 hc1 hs ⟨rfl, rfl, ⟨cap1, ⟨_, kup_self, kup_ne (by omega) kup_self, hs1, by have := hg.1; omega, by omega⟩, hm1, hg⟩, e1, fun k a b c => ⟨(hfr k a b c).1, kup_ne a (kup_ne b (hfr k a b c).2)⟩⟩
  refine v_aload_n hX d_R_add_0 rfl rfl ?_
  refine v_get hX j (v := .int (nI sz)) inT1 hj rfl h1 rfl 1 (by decide) fl_R_15 rfl rfl d_R_add_1 ?_
  refine v_aload_n hX d_R_add_4 rfl rfl ?_
  refine v_get hX j (v := .ref (loc (j + 1))) inT1 hj rfl h1 rfl 0 (by decide) fl_R_9 rfl rfl d_R_add_5 ?_
  refine v_alen hX (j + 1) 0 (v := nI cap) hj2 rfl h2 rfl rfl d_R_add_8 ?_
  refine v_icmp_lt hX d_R_add_9 (tgt := 29) (by decide) (fun c => ?_) (fun c => ?_)
  · have hlt : sz < cap := (nI_ltI (by omega) (by omega)).mp c
    exact tail loc val 0 0 cap f rfl h1 h2 hlt hc (fun k _ _ _ => ⟨rfl, rfl⟩) ⟨Nat.le_refl _, by omega, by omega⟩ (by omega) (by omega)
  · have hge : cap ≤ sz := Nat.le_of_not_lt (fun z => c (nI_lt z (by omega)))
    refine v_aload_n hX d_R_add_12 rfl rfl ?_
    refine v_aload_n hX d_R_add_13 rfl rfl ?_
    refine v_get hX j (v := .ref (loc (j + 1))) inT1 hj rfl h1 rfl 0 (by decide) fl_R_9 rfl rfl d_R_add_14 ?_
    refine v_aload_n hX d_R_add_17 rfl rfl ?_
    refine v_get hX j (v := .int (nI sz)) inT1 hj rfl h1 rfl 1 (by decide) fl_R_15 rfl rfl d_R_add_18 ?_
    refine v_iconst (v := 2) hX d_R_add_21 (by decide) ?_
    refine v_imulE (v := nI (sz * 2)) hX d_R_add_22 (nI_mul2 sz) ?_
    refine c_SO hX (rest := [.ref (loc j)]) hl (c_A_copyOf (j + 1) cap (sz * 2) hj2 (by omega) h2 (by omega) (by omega)) ml_R_19 sm_A_copyOf in_A cd_A_copyOf q_A_copyOf ⟨Nat.le_of_ble_eq_true rfl, Nat.le_of_ble_eq_true rfl⟩ rfl rfl rfl (Nat.le_of_ble_eq_true rfl) d_R_add_23 ⟨Nat.le_of_ble_eq_true rfl, Nat.le_of_ble_eq_true rfl⟩ (fun rv d2 lo2 va2 kc ns hp => ?_)
    obtain ⟨q, g, rfl, rfl, rfl, rfl, rfl, rfl⟩ := hp
    show V X D CL A _ _ _ _ _ _ _ [.ref q, .ref (loc j)]
    refine v_putE hX j (fs2 := [.ref q, .int (nI sz)]) inT1 tyX1 tyX1_ok nmX1 (Or.inr hj) (kup_ne (by omega) rfl) (kup_ne (by omega) h1) rfl 0 (by decide) fl_R_9 rfl rfl rfl rfl rfl (Nat.le_of_ble_eq_true rfl) d_R_add_26 rfl ?_
    refine row_mv j q _ _ hj2 hj3 hn (fun lo va e1 e2 e3 e4 e5 => ?_)
    exact tail lo va _ _ (sz * 2) g e2 (by rw [e1]; exact e3) e4 (by omega) (by omega) e5 ⟨by omega, by omega, by omega⟩ (by omega) (by omega)
set_option maxHeartbeats 4000000 in
set_option maxRecDepth 100000 in
theorem c_R_addAll (j sz cap jo so co mx : Nat) (hj : dom j) (hj2 : dom (j + 1)) (hj3 : j + 1 < 2000) (ho : dom jo) (ho2 : dom (jo + 1)) (hne : j ≠ jo ∧ j + 1 ≠ jo ∧ j ≠ jo + 1 ∧ jo + 1 < 2000) (hn : ¬ dom 2000) (h : rowOK cI loc val j sz cap) (hoo : rowOK cI loc val jo so co) (hm : sz + so ≤ mx) (hc : cap ≤ 2 * mx) (hx : 2 * mx ≤ 640000) :
    kM l y_R_addAll (Cond.code y_R_addAll b_R_addAll 3 none :: TT) rmR D CL (TY cI cB cZ cJ cN) A [.ref (loc j), .ref (loc jo)] dom loc val (PAdd cI dom loc val j cap (sz + so) mx) := by
  obtain ⟨f, h1, h2, h3, h4, h5⟩ := h
  obtain ⟨fo, o1, o2, o3, o4, o5⟩ := hoo
  refine kM_of (lv0 := [some (.ref (loc j)), some (.ref (loc jo)), none]) (own := "ProsePages$Row") (by decide) rfl (List.forall_mem_cons.mpr ⟨rfl, List.forall_mem_cons.mpr ⟨rfl, fun _ h => nomatch h⟩⟩) (Nat.le_of_ble_eq_true rfl) rfl (Nat.le_of_ble_eq_true rfl) (fun X hl hX hE hin0 => ?_)
  have tail : ∀ (lo : Nat → Nat) (va : Nat → va_E) (c1 s1 cap1 : Nat) (f1 : Nat → Int32), lo j = loc j → va j = .inr (1, [.ref (lo (j + 1)), .int (nI sz)]) → va (j + 1) = .inl (cI, cap1, .inl f1) → sz + so ≤ cap1 → cap1 ≤ 2 * mx → (∀ k, k ≠ j → k ≠ j + 1 → k ≠ 2000 → lo k = loc k ∧ va k = val k) → grown cap cap1 c1 s1 → c1 ≤ 20 → s1 ≤ 700000 → V X D CL A dom lo va c1 s1 33 [some (.ref (loc j)), some (.ref (loc jo)), some (.int (nI (sz + so)))] [] := by
    intro lo va c1 s1 cap1 f1 e1 g1 g2 hs1 hm1 hfr hg hc1 hs
    have p1 := hfr jo (by omega) (by omega) (by omega)
    have p2 := hfr (jo + 1) (by omega) (by omega) (by omega)
    have v1 : va jo = .inr (1, [.ref (loc (jo + 1)), .int (nI so)]) := p1.2.trans o1
    have v2 : va (jo + 1) = .inl (cI, co, .inl fo) := p2.2.trans o2
    refine v_aload_n hX d_R_addAll_33 rfl rfl ?_
    refine v_get hX jo (v := .ref (loc (jo + 1))) inT1 ho p1.1 v1 rfl 0 (by decide) fl_R_9 rfl rfl d_R_addAll_34 ?_
    refine v_iconst (v := 0) hX d_R_addAll_37 (by decide) ?_
    refine v_aload_n hX d_R_addAll_38 rfl rfl ?_
    refine v_get hX j (v := .ref (lo (j + 1))) inT1 hj e1 g1 rfl 0 (by decide) fl_R_9 rfl rfl d_R_addAll_39 ?_
    refine v_aload_n hX d_R_addAll_42 rfl rfl ?_
    refine v_get hX j (v := .int (nI sz)) inT1 hj e1 g1 rfl 1 (by decide) fl_R_15 rfl rfl d_R_addAll_43 ?_
    refine v_aload_n hX d_R_addAll_46 rfl rfl ?_
    refine v_get hX jo (v := .int (nI so)) inT1 ho p1.1 v1 rfl 1 (by decide) fl_R_15 rfl rfl d_R_addAll_47 ?_
    refine v_copyi hX (jo + 1) (j + 1) 0 ml_R_25 k_cpynat sm_Y_arraycopy in_Y ho2 p2.1 v2 hj2 rfl g2 rfl (by decide) (nI_pos (by omega)) (nI_pos (by omega)) (by rw [nI_clamp (by omega)]; show (0 : Nat) + so ≤ co; omega) (by rw [nI_clamp (by omega), nI_clamp (by omega)]; exact hs1) ⟨by decide, by decide⟩ rfl (Nat.le_of_ble_eq_true rfl) d_R_addAll_50 ?_
    refine v_aload_n hX d_R_addAll_53 rfl rfl ?_
    refine v_iload_n hX d_R_addAll_54 rfl rfl ?_
    refine v_putE hX j (fs2 := [.ref (lo (j + 1)), .int (nI (sz + so))]) inT1 tyX1 tyX1_ok nmX1 hj e1 (kup_ne (by omega) g1) rfl 1 (by decide) fl_R_15 rfl rfl rfl rfl rfl (Nat.le_of_ble_eq_true rfl) d_R_addAll_55 rfl ?_
    exact v_vret hX hE d_R_addAll_58 hc1 hs ⟨rfl, rfl, ⟨cap1, ⟨_, kup_self, kup_ne (by omega) kup_self, hs1, by have := hg.1; omega, by omega⟩, hm1, hg⟩, e1, fun k a b c => ⟨(hfr k a b c).1, kup_ne a (kup_ne b (hfr k a b c).2)⟩⟩
  refine v_aload_n hX d_R_addAll_0 rfl rfl ?_
  refine v_get hX j (v := .int (nI sz)) inT1 hj rfl h1 rfl 1 (by decide) fl_R_15 rfl rfl d_R_addAll_1 ?_
  refine v_aload_n hX d_R_addAll_4 rfl rfl ?_
  refine v_get hX jo (v := .int (nI so)) inT1 ho rfl o1 rfl 1 (by decide) fl_R_15 rfl rfl d_R_addAll_5 ?_
  refine v_iaddE (v := nI (sz + so)) hX d_R_addAll_8 (nI_add sz so) ?_
  refine v_istore_n (lv' := [some (.ref (loc j)), some (.ref (loc jo)), some (.int (nI (sz + so)))]) hX d_R_addAll_9 rfl (Nat.le_of_ble_eq_true rfl) rfl ?_
  refine v_iload_n hX d_R_addAll_10 rfl rfl ?_
  refine v_aload_n hX d_R_addAll_11 rfl rfl ?_
  refine v_get hX j (v := .ref (loc (j + 1))) inT1 hj rfl h1 rfl 0 (by decide) fl_R_9 rfl rfl d_R_addAll_12 ?_
  refine v_alen hX (j + 1) 0 (v := nI cap) hj2 rfl h2 rfl rfl d_R_addAll_15 ?_
  refine v_icmp_le hX d_R_addAll_16 (tgt := 33) (by decide) (fun c => ?_) (fun c => ?_)
  · have hle : sz + so ≤ cap := (nI_leI (by omega) (by omega)).mp c
    exact tail loc val 0 0 cap f rfl h1 h2 hle hc (fun k _ _ _ => ⟨rfl, rfl⟩) ⟨Nat.le_refl _, by omega, by omega⟩ (by omega) (by omega)
  · have hgt : cap < sz + so := Nat.lt_of_not_le (fun z => c (nI_le z (by omega)))
    refine v_aload_n hX d_R_addAll_19 rfl rfl ?_
    refine v_aload_n hX d_R_addAll_20 rfl rfl ?_
    refine v_get hX j (v := .ref (loc (j + 1))) inT1 hj rfl h1 rfl 0 (by decide) fl_R_9 rfl rfl d_R_addAll_21 ?_
    refine v_iload_n hX d_R_addAll_24 rfl rfl ?_
    refine v_iconst (v := 2) hX d_R_addAll_25 (by decide) ?_
    refine v_imulE (v := nI ((sz + so) * 2)) hX d_R_addAll_26 (nI_mul2 (sz + so)) ?_
    refine c_SO hX (rest := [.ref (loc j)]) hl (c_A_copyOf (j + 1) cap ((sz + so) * 2) hj2 (by omega) h2 (by omega) (by omega)) ml_R_19 sm_A_copyOf in_A cd_A_copyOf q_A_copyOf ⟨Nat.le_of_ble_eq_true rfl, Nat.le_of_ble_eq_true rfl⟩ rfl rfl rfl (Nat.le_of_ble_eq_true rfl) d_R_addAll_27 ⟨Nat.le_of_ble_eq_true rfl, Nat.le_of_ble_eq_true rfl⟩ (fun rv d2 lo2 va2 kc ns hp => ?_)
    obtain ⟨q, g, rfl, rfl, rfl, rfl, rfl, rfl⟩ := hp
    show V X D CL A _ _ _ _ _ _ _ [.ref q, .ref (loc j)]
    refine v_putE hX j (fs2 := [.ref q, .int (nI sz)]) inT1 tyX1 tyX1_ok nmX1 (Or.inr hj) (kup_ne (by omega) rfl) (kup_ne (by omega) h1) rfl 0 (by decide) fl_R_9 rfl rfl rfl rfl rfl (Nat.le_of_ble_eq_true rfl) d_R_addAll_30 rfl ?_
    refine row_mv j q _ _ hj2 hj3 hn (fun lo va e1 e2 e3 e4 e5 => ?_)
    exact tail lo va _ _ ((sz + so) * 2) g e2 (by rw [e1]; exact e3) e4 (by omega) (by omega) e5 ⟨by omega, by omega, by omega⟩ (by omega) (by omega)
end KRx
