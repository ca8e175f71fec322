section KCl
/-- the body alone -/
def T0 : TR := (fun _ => -1, fun _ => none, fun _ => 1, fun _ => 0, fun _ => none, fun _ => none, fun _ => none)
theorem T0_ok : TreeI T0 1 ∧ TreeU T0 1 := ⟨⟨(fun i j _ h => nomatch h), (fun i j _ h => nomatch h), fun i _ => ⟨Nat.le_refl 1, (by decide : 1 ≤ 12)⟩⟩, (fun i j _ h => nomatch h), (fun i j _ h => nomatch h)⟩
theorem NodesI.zero {ob2 : Nat → Nat} {q : Nat} {dom dom2 : Nat → Prop} {loc : Nat → Nat} {val : Nat → va_E} (hq : ob2 (1000 + 0) = q) (hd : ∀ k, dom2 k ↔ (k = 1000 + 0 ∨ dom k)) : NodesI ob2 T0 1 dom2 (va_up loc (1000 + 0) q) (va_up val (1000 + 0) (.inr (0, [.int 0, .int (-1), .null, .int 1, .int 0, .int 0, .int 0, .null, .null, .null, .int 0, .int (-1)]))) := ⟨by omega, fun i hi => by
  have e : i = 0 := by omega
  subst e
  exact ⟨(hd _).mpr (Or.inl rfl), by rw [va_up_self]; exact hq.symm, 0, 0, 0, -1, va_up_self _ _ _⟩⟩
abbrev PClr (cI cN : ClassId) (ob : Nat → Nat) (td : Nat) (rs : RS) (sh : Nat → Int32 × Int32 × Int32) (ts : Nat) (dom : Nat → Prop) (loc : Nat → Nat) (val : Nat → va_E) : kT := fun rv d lo va kc ns => rv = none ∧ ∃ ob2 : Nat → Nat, (∀ j, j ≠ 1000 + 0 → ob2 j = ob j) ∧ (∀ j, d j ↔ (j = 1000 + 0 ∨ dom j)) ∧ (∃ rs2, LayI cI ob2 td rs2 sh d lo va ∧ (rs2 3).1 = 0 ∧ (∀ j, j ≠ 3 → rs2 j = rs j) ∧ ns + Phi rs ≤ Phi rs2 + 12 ∧ 16 * kc + Phi rs ≤ Phi rs2 + 16) ∧ NodesI ob2 T0 1 d lo va ∧ DeskI cN ob2 1 0 0 ts 0 d lo va ∧ frC loc val lo va
end KCl
set_option maxHeartbeats 4000000 in
set_option maxRecDepth 100000 in
theorem c_P_clear {l : Launch} {D : va_G} {A : Nat → Prop} {cI cB cZ cJ cN : ClassId} {ob : Nat → Nat} {td : Nat} {rs : RS} {sh : Nat → Int32 × Int32 × Int32} {T : TR} {n ha ch ts : Nat} {hp : Int32} {dom : Nat → Prop} {loc : Nat → Nat} {val : Nat → va_E} (hI : LayI cI ob td rs sh dom loc val) (hN : NodesI ob T n dom loc val) (hD : DeskI cN ob n ha ch ts hp dom loc val) (hU : TreeU T n) (hha : ha < n) (hts : ts = 5 ∨ ts = 30) : kM l y_P_clear (Cond.code y_P_clear b_P_clear 1 none :: TT) (rmP 2 (Phi rs)) D CL (TY cI cB cZ cJ cN) A [.ref (ob 0)] dom loc val (PClr cI cN ob td rs sh ts dom loc val) := by
  refine kM_of (lv0 := [some (.ref (ob 0))]) (own := "ProsePages") (by decide) rfl (List.forall_mem_cons.mpr ⟨rfl, fun _ h => nomatch h⟩) (Nat.le_of_ble_eq_true rfl) rfl (Nat.le_of_ble_eq_true rfl) (fun X hl hX hE hin0 => ?_)
  have hP : pay rs rs 0 0 := pay.rf
  have hx : Phi rs ≤ 2663816 := hI.1.phi
  have hn3 := hN.1
  refine v_aload_n hX d_P_clear_0 rfl rfl ?_
  refine v_get hX 0 (v := .ref (ob 2)) inT4 hD.1.1 hD.1.2.1 hD.1.2.2 rfl 1 (by decide) fl_P_18 rfl rfl d_P_clear_1 ?_
  refine v_get hX 2 (v := .ref (ob 3)) inT2 hI.2.2.2.1.1 hI.2.2.2.1.2.1 hI.2.2.2.1.2.2 rfl 0 (by decide) fl_P_73 rfl rfl d_P_clear_4 ?_
  refine v_iconst (v := 0) hX d_P_clear_7 (by decide) ?_
  refine c_V hX 3 (rest := []) hl (L_cut hI 3 (by decide) 0 (by decide)) ml_P_119 im_R_cut se_R_cut in_R cd_R_cut rfl q_R_cut ⟨(Nat.le_of_ble_eq_true rfl), (Nat.le_of_ble_eq_true rfl)⟩ (hI.1.1 3 (by decide)).1 (hI.1.1 3 (by decide)).2.2.1 (hI.1.1 3 (by decide)).2.2.2.1.v rfl rfl rfl rfl (Nat.le_of_ble_eq_true rfl) d_P_clear_8 ⟨by have a := hP.2; have b := hx; show _ + 100 ≤ 120 + (2663816 - Phi rs) / 16; omega, by have a := hP.1; have b := hx; show _ + 200000 ≤ 700000 + (2663816 - Phi rs); omega⟩ (fun rv d2 lo1 va1 kc1 ns1 hp => ?_)
  obtain ⟨rfl, rfl, ⟨rs1, hI1, hs1, ho1, hp1⟩, hf1⟩ := hp
  show V X D CL A _ _ _ _ _ _ _ []
  have hP1 : pay rs rs1 (0 + kc1) (0 + ns1) := ⟨by have a := hP.1; have b := hp1.1; omega, by have a := hP.2; have b := hp1.2; omega⟩
  have hx1 : Phi rs1 ≤ 2663816 := hI1.1.phi
  have hN1 := hN.fr hf1
  have hD1 := hD.frL hf1
  refine v_aload_n hX d_P_clear_11 rfl rfl ?_
  refine v_iconst (v := 0) hX d_P_clear_12 (by decide) ?_
  refine v_desk hX hI1 hN1 hD1 5 (v := .int 0) (ha2 := ha) (ch2 := 0) (ts2 := ts) (hp2 := hp) (by decide) fl_P_101 rfl rfl rfl rfl d_P_clear_13 rfl (fun va2 hI2 hN2 hD2 hf2 => ?_)
  refine v_aload_n hX d_P_clear_16 rfl rfl ?_
  refine v_new hX (1000 + 0) (fun j => j = 1000 + 0 ∨ dom j) (ci := 0) (fs := [.int 0, .int 0, .null, .int 0, .int 0, .int 0, .int 0, .null, .null, .null, .int 0, .int 0]) inT0 tyX0 tyX0_ok cl_P_9 ia_N in_N rfl (by decide) (by have a := hP1.2; have b := hx1; show _ + 1 ≤ 120 + (2663816 - Phi rs) / 16; omega) (by have a := hP1.1; have b := hx1; show _ + 12 ≤ 700000 + (2663816 - Phi rs); omega) d_P_clear_17 (fun i h => h) (Or.inl rfl) (fun q hq9 => ?_)
  have hdd : ∀ j, (j = 1000 + 0 ∨ dom j) ↔ (j = 1000 + 0 ∨ dom j) := fun _ => Iff.rfl
  obtain ⟨ob2, hob2⟩ : ∃ z, z = va_up ob (1000 + 0) q := ⟨_, rfl⟩
  have hobk : ∀ j, j ≠ 1000 + 0 → ob2 j = ob j := fun j hj => by rw [hob2]; exact va_up_ne _ _ hj
  have hobq : ob2 (1000 + 0) = q := by rw [hob2]; exact va_up_self _ _ _
  have hI3 := hI2.new (ob2 := ob2) (q := q) (j := 1000 + 0) (by omega) (by omega) hobk hdd (.inr (0, [.int 0, .int (-1), .null, .int 1, .int 0, .int 0, .int 0, .null, .null, .null, .int 0, .int (-1)]))
  have hN3 : NodesI ob2 T0 1 (fun j => j = 1000 + 0 ∨ dom j) (va_up lo1 (1000 + 0) q) (va_up va2 (1000 + 0) (.inr (0, [.int 0, .int (-1), .null, .int 1, .int 0, .int 0, .int 0, .null, .null, .null, .int 0, .int (-1)]))) := NodesI.zero hobq hdd
  obtain ⟨⟨a1, a2, a3⟩, b1, b2, f, b3, b4⟩ := hD2
  have hfr : frC lo1 va2 (va_up lo1 (1000 + 0) q) (va_up va2 (1000 + 0) (.inr (0, [.int 0, .int (-1), .null, .int 1, .int 0, .int 0, .int 0, .null, .null, .null, .int 0, .int (-1)]))) := fun j a b c => ⟨va_up_ne _ _ (by omega), va_up_ne _ _ (by omega)⟩
  have a2n : va_up lo1 (1000 + 0) q 0 = ob 0 := (va_up_ne _ _ (by omega)).trans a2
  have b2n : va_up lo1 (1000 + 0) q 1 = ob 1 := (va_up_ne _ _ (by omega)).trans b2
  have hinit : kM l y_N_init (Cond.code y_N_init b_N_init 6 none :: TT) (rmL 1) D CL (TY cI cB cZ cJ cN) A [.ref q, .int 0, .int (-1), .int 0, .null, .int 0] (fun j => j = 1000 + 0 ∨ dom j) (va_up lo1 (1000 + 0) q) (va_up va2 (1000 + 0) (.inr (0, [.int 0, .int 0, .null, .int 0, .int 0, .int 0, .int 0, .null, .null, .null, .int 0, .int 0]))) (fun rv d lo va kc ns => rv = none ∧ (fun j => j = 1000 + 0 ∨ dom j) = d ∧ va_up lo1 (1000 + 0) q = lo ∧ va_up (va_up va2 (1000 + 0) (.inr (0, [.int 0, .int 0, .null, .int 0, .int 0, .int 0, .int 0, .null, .null, .null, .int 0, .int 0]))) (1000 + 0) (.inr (0, [.int 0, .int (-1), .null, .int 1, .int 0, .int 0, .int 0, .null, .null, .null, .int 0, .int (-1)])) = va ∧ kc = 0 ∧ ns = 0) := by
    have h9 := c_N_init0 (l := l) (D := D) (A := A) (cI := cI) (cB := cB) (cZ := cZ) (cJ := cJ) (cN := cN) (dom := fun j => j = 1000 + 0 ∨ dom j) (loc := va_up lo1 (1000 + 0) q) (val := va_up va2 (1000 + 0) (.inr (0, [.int 0, .int 0, .null, .int 0, .int 0, .int 0, .int 0, .null, .null, .null, .int 0, .int 0]))) (1000 + 0) 0 (-1) 0 0 (Or.inl rfl) (va_up_self _ _ _)
    rw [va_up_self] at h9
    exact h9
  refine v_dup hX d_P_clear_20 rfl ?_
  refine v_iconst (v := 0) hX d_P_clear_21 (by decide) ?_
  refine v_iconst (v := (-1)) hX d_P_clear_22 (by decide) ?_
  refine v_iconst (v := 0) hX d_P_clear_23 (by decide) ?_
  refine v_null hX d_P_clear_24 ?_
  refine v_iconst (v := 0) hX d_P_clear_25 (by decide) ?_
  refine c_I hX (rest := [.ref q, .ref (ob 0)]) hl (hinit) ml_P_29 im_N_init in_N cd_N_init rfl q_N_init ⟨(Nat.le_of_ble_eq_true rfl), (Nat.le_of_ble_eq_true rfl)⟩ rfl rfl rfl (Nat.le_of_ble_eq_true rfl) d_P_clear_26 ⟨by have a := hP1.2; have b := hx1; show _ + 1 + 100 ≤ 120 + (2663816 - Phi rs) / 16; omega, by have a := hP1.1; have b := hx1; show _ + 12 + 200000 ≤ 700000 + (2663816 - Phi rs); omega⟩ (fun rv d2 lo2 va2 kc ns hp => ?_)
  obtain ⟨rfl, rfl, rfl, rfl, rfl, rfl⟩ := hp
  show V X D CL A _ _ _ _ _ _ _ [.ref q, .ref (ob 0)]
  rw [kup_up]
  refine v_putE hX 0 (fs2 := [.ref (ob 1), .ref (ob 2), .ref q, .ref (ob (1000 + ha)), .int (nI n), .int 0, .ref (ob ts), .int hp]) inT4 tyX4 tyX4_ok nmX4 (Or.inr a1) a2n (kup_ne (by omega) a3) rfl 2 (by decide) fl_P_32 rfl rfl rfl rfl rfl (Nat.le_of_ble_eq_true rfl) d_P_clear_29 rfl ?_
  refine v_aload_n hX d_P_clear_32 rfl rfl ?_
  refine v_aload_n hX d_P_clear_33 rfl rfl ?_
  refine v_get hX 0 (v := .ref q) inT4 (Or.inr a1) a2n kup_self rfl 2 (by decide) fl_P_32 rfl rfl d_P_clear_34 ?_
  refine v_putE hX 0 (fs2 := [.ref (ob 1), .ref (ob 2), .ref q, .ref q, .int (nI n), .int 0, .ref (ob ts), .int hp]) inT4 tyX4 tyX4_ok nmX4 (Or.inr a1) a2n kup_self rfl 3 (by decide) fl_P_36 rfl rfl rfl rfl rfl (Nat.le_of_ble_eq_true rfl) d_P_clear_37 rfl ?_
  refine v_aload_n hX d_P_clear_40 rfl rfl ?_
  refine v_get hX 0 (v := .ref (ob 1)) inT4 (Or.inr a1) a2n kup_self rfl 0 (by decide) fl_P_11 rfl rfl d_P_clear_41 ?_
  refine v_iconst (v := 0) hX d_P_clear_44 (by decide) ?_
  refine v_aload_n hX d_P_clear_45 rfl rfl ?_
  refine v_get hX 0 (v := .ref q) inT4 (Or.inr a1) a2n kup_self rfl 2 (by decide) fl_P_32 rfl rfl d_P_clear_46 ?_
  refine v_astq hX 1 4 (1000 + 0) (rc := (RX0, TX0, 12)) (Or.inr b1) b2n (kup_ne (by omega) (kup_ne (by omega) (kup_ne (by omega) b3))) rfl (Or.inl rfl) (va_up_self _ _ _) (kup_ne (by omega) (kup_ne (by omega) kup_self)) rfl (vpb (by decide)) d_P_clear_49 ?_
  refine v_aload_n hX d_P_clear_50 rfl rfl ?_
  refine v_iconst (v := 1) hX d_P_clear_51 (by decide) ?_
  refine v_putE hX 0 (fs2 := [.ref (ob 1), .ref (ob 2), .ref q, .ref q, .int 1, .int 0, .ref (ob ts), .int hp]) inT4 tyX4 tyX4_ok nmX4 (Or.inr a1) a2n (kup_ne (by omega) kup_self) rfl 4 (by decide) fl_P_39 rfl rfl rfl rfl rfl (Nat.le_of_ble_eq_true rfl) d_P_clear_52 rfl ?_
  refine v_aload_n hX d_P_clear_55 rfl rfl ?_
  refine v_iconst (v := 0) hX d_P_clear_56 (by decide) ?_
  refine v_putE hX 0 (fs2 := [.ref (ob 1), .ref (ob 2), .ref q, .ref q, .int 1, .int 0, .ref (ob ts), .int 0]) inT4 tyX4 tyX4_ok nmX4 (Or.inr a1) a2n kup_self rfl 7 (by decide) fl_P_122 rfl rfl rfl (by decide) rfl (Nat.le_of_ble_eq_true rfl) d_P_clear_57 rfl ?_
  exact v_vret hX hE d_P_clear_60 (by have a := hP1.2; have b := hx1; show _ ≤ 120 + (2663816 - Phi rs) / 16; omega) (by have a := hP1.1; have b := hx1; show _ ≤ 700000 + (2663816 - Phi rs); omega) ⟨rfl, ob2, hobk, fun _ => Iff.rfl, ⟨rs1, (((((hI3.oth (Or.inl (by omega)) _).oth (Or.inl (by omega)) _).oth (Or.inl (by omega)) _).oth (Or.inl (by omega)) _).oth (Or.inl (by omega)) _), hs1.trans (Nat.zero_min _), (fun j hj => ho1 j hj), by have a := hP1.1; omega, by have a := hP1.2; omega⟩, (((((hN3.oth (by omega) _).oth (by omega) _).oth (by omega) _).oth (by omega) _).oth (by omega) _), ⟨⟨Or.inr a1, a2n.trans (hobk 0 (by omega)).symm, (kup_self.trans (by rw [hobk 1 (by omega), hobk 2 (by omega), hobq, hobk ts (by rcases hts with z | z <;> omega)]; rfl))⟩, Or.inr b1, b2n.trans (hobk 1 (by omega)).symm, va_up f 0 (some q), (kup_ne (by omega) (kup_ne (by omega) kup_self)), fun i hi => by have e : i = 0 := (by omega); subst e; rw [hobq]; exact va_up_self _ _ _⟩, (((frC.rf.trans hf1.toC).trans hf2).trans (((((hfr.trans (frC_up (by omega) _)).trans (frC_up (by omega) _)).trans (frC_up (by omega) _)).trans (frC_up (by omega) _)).trans (frC_up (by omega) _)))⟩
