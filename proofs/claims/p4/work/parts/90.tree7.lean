section KAd
theorem exT_U {T : TR} {n ha : Nat} (h : TreeU T n) (hh : ha < n) (k v : Int32) : TreeU (exT T n ha k v) (n + 1) := by
  refine ⟨fun i j hi hj => ?_, fun i j hi hj => ?_⟩
  · by_cases e : i = n
    · subst e
      rw [exT_new.2.1] at hj
      cases hj
      exact hh
    · rw [(exT_old e).2.1] at hj
      exact h.1 i j (by omega) hj
  · by_cases e : i = n
    · subst e
      rw [exT_new.2.2.2.2.2.1] at hj
      cases hj
    · rw [(exT_old e).2.2.2.2.2.1] at hj
      have := h.2 i j (by omega) hj
      exact ⟨this.1, by omega⟩
theorem TreeB_of {T : TR} {n : Nat} (hT : TreeI T n) (hU : TreeU T n) : TreeB T n := fun i hi => ⟨fun j hj => Nat.lt_trans (hU.1 i j hi hj) hi, fun j hj => (hT.2.1 i j hi hj).2.1, fun j hj => (hU.2 i j hi hj).2, fun j hj => (hT.1 i j hi hj).2.1⟩
/-- how a node is added -/
abbrev PAddN (cI cN : ClassId) (ob : Nat → Nat) (td : Nat) (rs : RS) (sh : Nat → Int32 × Int32 × Int32) (T : TR) (n ha ch ts : Nat) (hp : Int32) (k v : Int32) (dom : Nat → Prop) (loc : Nat → Nat) (val : Nat → va_E) : kT := fun rv d lo va kc ns => ∃ ob2 : Nat → Nat, (∀ j, j ≠ 1000 + n → ob2 j = ob j) ∧ rv = some (.ref (ob2 (1000 + n))) ∧ (∀ j, d j ↔ (j = 1000 + n ∨ dom j)) ∧ LayI cI ob2 td rs sh d lo va ∧ NodesI ob2 (tkT (exT T n ha k v) ha n) (n + 1) d lo va ∧ DeskI cN ob2 (n + 1) ha ch ts hp d lo va ∧ kc = 1 ∧ ns = 12 ∧ frC loc val lo va
end KAd
set_option maxHeartbeats 4000000 in
set_option maxRecDepth 100000 in
theorem c_P_addNode {l : Launch} {D : va_G} {A : Nat → Prop} {cI cB cZ cJ cN : ClassId} {ob : Nat → Nat} {td : Nat} {rs : RS} {sh : Nat → Int32 × Int32 × Int32} {T : TR} {n ha ch ts : Nat} {hp : Int32} {dom : Nat → Prop} {loc : Nat → Nat} {val : Nat → va_E} (hI : LayI cI ob td rs sh dom loc val) (hN : NodesI ob T n dom loc val) (hD : DeskI cN ob n ha ch ts hp dom loc val) (hU : TreeU T n) (hha : ha < n) (hts : ts = 5 ∨ ts = 30) (hT : TreeI T n) (hn : n < 300) (k v : Int32) : kM l y_P_addNode (Cond.code y_P_addNode b_P_addNode 4 (some (.object "ProsePages$Node")) :: TT) (rmP 2 (Phi rs)) D CL (TY cI cB cZ cJ cN) A [.ref (ob 0), .int k, .int v] dom loc val (PAddN cI cN ob td rs sh T n ha ch ts hp k v dom loc val) := by
  refine kM_of (lv0 := [some (.ref (ob 0)), some (.int k), some (.int v), none]) (own := "ProsePages") (by decide) rfl (List.forall_mem_cons.mpr ⟨rfl, List.forall_mem_cons.mpr ⟨rfl, List.forall_mem_cons.mpr ⟨rfl, fun _ h => nomatch h⟩⟩⟩) (Nat.le_of_ble_eq_true rfl) rfl (Nat.le_of_ble_eq_true rfl) (fun X hl hX hE hin0 => ?_)
  have hn3 := hN.1
  have hx : Phi rs ≤ 2663816 := hI.1.phi
  refine v_new hX (1000 + n) (fun j => j = 1000 + n ∨ dom j) (ci := 0) (fs := [.int 0, .int 0, .null, .int 0, .int 0, .int 0, .int 0, .null, .null, .null, .int 0, .int 0]) inT0 tyX0 tyX0_ok cl_P_9 ia_N in_N rfl (by decide) (by show _ + 1 ≤ 120 + (2663816 - Phi rs) / 16; omega) (by show _ + 12 ≤ 700000 + (2663816 - Phi rs); omega) d_P_addNode_0 (fun i h => h) (Or.inl rfl) (fun q hq9 => ?_)
  have hdd : ∀ j, (j = 1000 + n ∨ dom j) ↔ (j = 1000 + n ∨ dom j) := fun _ => Iff.rfl
  obtain ⟨ob2, hob2⟩ : ∃ z, z = va_up ob (1000 + n) q := ⟨_, rfl⟩
  have hobk : ∀ j, j ≠ 1000 + n → ob2 j = ob j := fun j hj => by rw [hob2]; exact va_up_ne _ _ hj
  have hobq : ob2 (1000 + n) = q := by rw [hob2]; exact va_up_self _ _ _
  have hI2 := hI.new (ob2 := ob) (q := q) (j := 1000 + n) (by omega) (by omega) (fun _ _ => rfl) hdd (.inr (0, [.int 0, .int 0, .null, .int 0, .int 0, .int 0, .int 0, .null, .null, .null, .int 0, .int 0]))
  have hN2 := hN.newO (q := q) (j := 1000 + n) (Or.inr (Nat.le_refl _)) hdd (.inr (0, [.int 0, .int 0, .null, .int 0, .int 0, .int 0, .int 0, .null, .null, .null, .int 0, .int 0]))
  have hD2 := hD.new (ob2 := ob) (q := q) hha hts (fun _ _ => rfl) hdd (.inr (0, [.int 0, .int 0, .null, .int 0, .int 0, .int 0, .int 0, .null, .null, .null, .int 0, .int 0]))
  have hI3 := hI.new (ob2 := ob2) (q := q) (j := 1000 + n) (by omega) (by omega) hobk hdd (.inr (0, [.int (nI n), .int k, .ref (ob (1000 + ha)), .int (nI (tD T ha + 1)), .int (nI (rs 3).1), .int (nI (rs 3).1), .int v, .null, .null, .null, .int 0, .int (-1)]))
  have hN3 := hN.new (TreeB_of hT hU) hn hha hobk hobq hdd k v (nI (rs 3).1)
  have hD3 := hD.new (ob2 := ob2) (q := q) hha hts hobk hdd (.inr (0, [.int (nI n), .int k, .ref (ob (1000 + ha)), .int (nI (tD T ha + 1)), .int (nI (rs 3).1), .int (nI (rs 3).1), .int v, .null, .null, .null, .int 0, .int (-1)]))
  have hfr : frC loc val (va_up loc (1000 + n) q) (va_up val (1000 + n) (.inr (0, [.int (nI n), .int k, .ref (ob (1000 + ha)), .int (nI (tD T ha + 1)), .int (nI (rs 3).1), .int (nI (rs 3).1), .int v, .null, .null, .null, .int 0, .int (-1)]))) := fun j a b c => ⟨va_up_ne _ _ (by omega), va_up_ne _ _ (by omega)⟩
  have hinit : kM l y_N_init (Cond.code y_N_init b_N_init 6 none :: TT) (rmL 1) D CL (TY cI cB cZ cJ cN) A [.ref q, .int (nI n), .int k, .int v, .ref (ob (1000 + ha)), .int (nI (rs 3).1)] (fun j => j = 1000 + n ∨ dom j) (va_up loc (1000 + n) q) (va_up val (1000 + n) (.inr (0, [.int 0, .int 0, .null, .int 0, .int 0, .int 0, .int 0, .null, .null, .null, .int 0, .int 0]))) (fun rv d lo va kc ns => rv = none ∧ (fun j => j = 1000 + n ∨ dom j) = d ∧ va_up loc (1000 + n) q = lo ∧ va_up (va_up val (1000 + n) (.inr (0, [.int 0, .int 0, .null, .int 0, .int 0, .int 0, .int 0, .null, .null, .null, .int 0, .int 0]))) (1000 + n) (.inr (0, [.int (nI n), .int k, .ref (ob (1000 + ha)), .int (nI (tD T ha + 1)), .int (nI (rs 3).1), .int (nI (rs 3).1), .int v, .null, .null, .null, .int 0, .int (-1)])) = va ∧ kc = 0 ∧ ns = 0) := by
    have h9 := c_N_init1 (l := l) (D := D) (A := A) (cI := cI) (cB := cB) (cZ := cZ) (cJ := cJ) (cN := cN) (dom := fun j => j = 1000 + n ∨ dom j) (loc := va_up loc (1000 + n) q) (val := va_up val (1000 + n) (.inr (0, [.int 0, .int 0, .null, .int 0, .int 0, .int 0, .int 0, .null, .null, .null, .int 0, .int 0]))) (1000 + n) (1000 + ha) (nI n) k v (nI (rs 3).1) (nI (tD T ha)) (by omega) (Or.inl rfl) (hN2.2 ha hha).1 (va_up_self _ _ _) (hN2.2 ha hha).2.2.choose_spec.choose_spec.choose_spec.choose_spec
    rw [va_up_self, (hN2.2 ha hha).2.1, nI_1] at h9
    exact h9
  refine v_dup hX d_P_addNode_3 rfl ?_
  refine v_aload_n hX d_P_addNode_4 rfl rfl ?_
  refine v_get hX 0 (v := .int (nI n)) inT4 hD2.1.1 hD2.1.2.1 hD2.1.2.2 rfl 4 (by decide) fl_P_39 rfl rfl d_P_addNode_5 ?_
  refine v_iload_n hX d_P_addNode_8 rfl rfl ?_
  refine v_iload_n hX d_P_addNode_9 rfl rfl ?_
  refine v_aload_n hX d_P_addNode_10 rfl rfl ?_
  refine v_get hX 0 (v := .ref (ob (1000 + ha))) inT4 hD2.1.1 hD2.1.2.1 hD2.1.2.2 rfl 3 (by decide) fl_P_36 rfl rfl d_P_addNode_11 ?_
  refine v_aload_n hX d_P_addNode_14 rfl rfl ?_
  refine v_get hX 0 (v := .ref (ob 2)) inT4 hD2.1.1 hD2.1.2.1 hD2.1.2.2 rfl 1 (by decide) fl_P_18 rfl rfl d_P_addNode_15 ?_
  refine v_get hX 2 (v := .ref (ob 3)) inT2 hI2.2.2.2.1.1 hI2.2.2.2.1.2.1 hI2.2.2.2.1.2.2 rfl 0 (by decide) fl_P_73 rfl rfl d_P_addNode_18 ?_
  refine c_V hX 3 (rest := [.ref (ob (1000 + ha)), .int v, .int k, .int (nI n), .ref q, .ref q]) hl (L_size hI2 3 (by decide)) ml_P_83 im_R_size se_R_size in_R cd_R_size rfl q_R_size ⟨(Nat.le_of_ble_eq_true rfl), (Nat.le_of_ble_eq_true rfl)⟩ (hI2.1.1 3 (by decide)).1 (hI2.1.1 3 (by decide)).2.2.1 (hI2.1.1 3 (by decide)).2.2.2.1.v rfl rfl rfl rfl (Nat.le_of_ble_eq_true rfl) d_P_addNode_21 ⟨by show 1 + 100 ≤ 120 + (2663816 - Phi rs) / 16; omega, by show 12 + 200000 ≤ 700000 + (2663816 - Phi rs); omega⟩ (fun rv d2 lo2 va2 kc ns hp => ?_)
  obtain ⟨rfl, rfl, rfl, rfl, rfl, rfl⟩ := hp
  show V X D CL A _ _ _ _ _ _ _ (.int (nI (rs 3).1) :: [.ref (ob (1000 + ha)), .int v, .int k, .int (nI n), .ref q, .ref q])
  refine c_I hX (rest := [.ref q]) hl (hinit) ml_P_29 im_N_init in_N cd_N_init rfl q_N_init ⟨(Nat.le_of_ble_eq_true rfl), (Nat.le_of_ble_eq_true rfl)⟩ rfl rfl rfl (Nat.le_of_ble_eq_true rfl) d_P_addNode_24 ⟨by show 1 + 100 ≤ 120 + (2663816 - Phi rs) / 16; omega, by show 12 + 200000 ≤ 700000 + (2663816 - Phi rs); omega⟩ (fun rv d2 lo2 va2 kc ns hp => ?_)
  obtain ⟨rfl, rfl, rfl, rfl, rfl, rfl⟩ := hp
  show V X D CL A _ _ _ _ _ _ _ [.ref q]
  rw [kup_up]
  show V X D CL A _ _ _ _ _ 27 _ [.ref q]
  have htail := t_addNode (ob := ob2) (ph := Phi rs) (k := k) (v := v) (n := n) (ha := ha) hX hl hE (by show 1 ≤ 120 + (2663816 - Phi rs) / 16; omega) (by show 12 ≤ 700000 + (2663816 - Phi rs); omega) hI3 hN3 hD3 (exT_U hU hha k v) hha hn (fun va hIa hNa hDa hfa => ⟨ob2, hobk, rfl, fun _ => Iff.rfl, hIa, hNa, hDa, rfl, rfl, hfr.trans hfa⟩)
  rw [hobk 0 (by omega), hobq] at htail
  exact htail
