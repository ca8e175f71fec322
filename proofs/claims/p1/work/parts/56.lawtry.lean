set_option maxHeartbeats 4000000 in
set_option maxRecDepth 100000 in
theorem law_0g {p : Program} {l : Launch} {e : Env} {s : State} {m : MethodId} {below : List Frame} {meth : Method} {c : Code} {b : Nat} {sc : Nat → Int32} {D : va_G} {A : Nat → Prop} {cI cB cZ cJ cN : ClassId} {X : KX} (hXe : X = (p, l, e, room_1, s, m, #[Value.ref b], below, meth, c, lw_Z below #[Value.ref b] s)) (hX : OX X b_L_law 7 "ProsePagesLaw" TT D CL (TY cI cB cZ cJ cN) A room_1) (hA : ∀ q, A q → s.heap.size ≤ q) (hr : meth.sig.returnType = ret) (hs : va_X b 6 sc (xs X) (xs X).heap ∧ b < (xs X).heap.size ∧ ¬ A b) {loc : Nat → Nat} {val : Nat → va_E} (hv : ∀ k, Nat.ble (k + 1) 48 = true → val k = pcell cI cN loc k) (hm : ∀ k, (Nat.ble 48 k && Nat.ble (k + 1) 76) = true → val k = mcell cI cB cZ loc k) (ho : val 76 = .inl (cJ, 1, .inr (.inl (fun _ => 0)))) (hl : X.2.1 = l) {cells slots : Nat} {o5 o6 : Option Value} (hc : cells ≤ 100000) (hsl : slots ≤ 1000000) (htr : l.stackTraces = false) (hg : gB (sc 1) (sc 2)) : V X D CL A (kd 77) loc val cells slots 100 [some (.ref b), some (.ref (loc 0)), some (.ref (loc 48)), some (.ref (loc 76)), some (.int 0), o5, o6] [] := by
  refine v_aload_n hX d_L_law_100 rfl rfl ?_
  refine v_aload_n hX d_L_law_101 rfl rfl ?_
  refine v_iload hX d_L_law_102 rfl ?_
  refine v_iconst (v := 1) hX d_L_law_104 (by decide) ?_
  refine v_iaddE (v := 1) hX d_L_law_105 (by decide) ?_
  refine v_sld hX hs (v := sc 1) (vpb (by decide)) (congrArg sc (by decide)) d_L_law_106 ?_
  refine v_aload_n hX d_L_law_107 rfl rfl ?_
  refine v_iload hX d_L_law_108 rfl ?_
  refine v_iconst (v := 2) hX d_L_law_110 (by decide) ?_
  refine v_iaddE (v := 2) hX d_L_law_111 (by decide) ?_
  refine v_sld hX hs (v := sc 2) (vpb (by decide)) (congrArg sc (by decide)) d_L_law_112 ?_
  refine v_aload_n hX d_L_law_113 rfl rfl ?_
  refine c_SW hX (rest := []) hl (c_L_begin_ok hv ho (sc 1) (sc 2) (c_P_begin_good hv _ _ hg)) k_262 k_263 k_0 k_264 q_L_begin ⟨(Nat.le_of_ble_eq_true rfl), (Nat.le_of_ble_eq_true rfl)⟩ rfl rfl rfl (Nat.le_of_ble_eq_true rfl) d_L_law_114 ⟨by show _ + 400 ≤ 600002; omega, by show _ + 800000 ≤ 7302232; omega⟩ (fun rv d2 lo2 va2 kc ns hp => ?_)
  obtain ⟨rfl, hk, g1, g2, g3, rfl, rfl⟩ := hp
  show V X D CL A _ _ _ _ _ _ _ [.int 0]
  refine v_istore (lv' := [some (.ref b), some (.ref (loc 0)), some (.ref (loc 48)), some (.ref (loc 76)), some (.int 0), some (.int 0), o6]) hX d_L_law_117 (Nat.le_of_ble_eq_true rfl) rfl ?_
  have e48 : lo2 48 = loc 48 := (hk 48 rfl).2.1
  have hd2 := hk.hd g1
  have hm2 := keepM.hm hk hm
  have hM := c_M_begin_good (l := l) (D := D) (A := A) (cI := cI) (cB := cB) (cZ := cZ) (cJ := cJ) (cN := cN) hd2 hm2 (sc 1) (sc 2) hg
  rw [e48] at hM
  refine v_aload_n hX d_L_law_119 rfl rfl ?_
  refine v_aload_n hX d_L_law_120 rfl rfl ?_
  refine v_iload hX d_L_law_121 rfl ?_
  refine v_iconst (v := 1) hX d_L_law_123 (by decide) ?_
  refine v_iaddE (v := 1) hX d_L_law_124 (by decide) ?_
  refine v_sld hX hs (v := sc 1) (vpb (by decide)) (congrArg sc (by decide)) d_L_law_125 ?_
  refine v_aload_n hX d_L_law_126 rfl rfl ?_
  refine v_iload hX d_L_law_127 rfl ?_
  refine v_iconst (v := 2) hX d_L_law_129 (by decide) ?_
  refine v_iaddE (v := 2) hX d_L_law_130 (by decide) ?_
  refine v_sld hX hs (v := sc 2) (vpb (by decide)) (congrArg sc (by decide)) d_L_law_131 ?_
  refine c_V hX 48 (rest := []) hl hM k_726 k_727 k_728 k_6 k_729 rfl q_M_begin ⟨(Nat.le_of_ble_eq_true rfl), (Nat.le_of_ble_eq_true rfl)⟩ (hd2 48 rfl) e48 (hm2 48 rfl) rfl rfl rfl rfl (Nat.le_of_ble_eq_true rfl) d_L_law_132 ⟨by show _ + 300 ≤ 600002; omega, by show _ + 600000 ≤ 7302232; omega⟩ (fun rv d3 lo3 va3 kc ns hp => ?_)
  obtain ⟨rfl, ⟨xs9, h48⟩, ⟨f1, f2, f3, f4, f5⟩, rfl, rfl⟩ := hp
  show V X D CL A _ _ _ _ _ _ _ [.int 1]
  refine v_istore (lv' := [some (.ref b), some (.ref (loc 0)), some (.ref (loc 48)), some (.ref (loc 76)), some (.int 0), some (.int 0), some (.int 1)]) hX d_L_law_135 (Nat.le_of_ble_eq_true rfl) rfl ?_
  refine v_aload_n hX d_L_law_137 rfl rfl ?_
  have e483 : lo3 48 = loc 48 := f2.trans e48
  have hT := c_M_thrown (l := l) (D := D) (A := A) (cI := cI) (cB := cB) (cZ := cZ) (cJ := cJ) (cN := cN) (dom := d3) (loc := lo3) (val := va3) f1 h48
  rw [e483] at hT
  refine c_V hX 48 (rest := []) hl hT k_722 k_723 k_724 k_6 k_725 rfl q_M_thrown ⟨(Nat.le_of_ble_eq_true rfl), (Nat.le_of_ble_eq_true rfl)⟩ f1 e483 h48 rfl rfl rfl rfl (Nat.le_of_ble_eq_true rfl) d_L_law_138 ⟨by show _ + 100 ≤ 600002; omega, by show _ + 200000 ≤ 7302232; omega⟩ (fun rv d4 lo4 va4 kc ns hp => ?_)
  obtain ⟨rfl, rfl, rfl, rfl, rfl, rfl⟩ := hp
  show V X D CL A _ _ _ _ _ _ _ [.int 0]
  refine v_iload hX d_L_law_141 rfl ?_
  refine v_icmp_eq hX d_L_law_143 (tgt := 148) (by decide) (fun _ => ?_) (fun c => absurd rfl c)
  refine v_iload hX d_L_law_148 rfl ?_
  refine v_if_ne hX d_L_law_150 (tgt := 165) (by decide) (fun c => absurd (by decide) c) (fun _ => ?_)
  refine v_aload_n hX d_L_law_153 rfl rfl ?_
  refine v_iconst (v := 0) hX d_L_law_154 (by decide) ?_
  refine v_lald hX 76 3 (v := 1) f3 (f4.trans g2) (f5.trans g3) rfl (vpb (by decide)) (by decide) d_L_law_155 ?_
  refine v_iload hX d_L_law_156 rfl ?_
  refine v_i2l (v := 1) hX d_L_law_158 (by decide) ?_
  refine v_lcmp hX d_L_law_159 ?_
  refine v_if_eq hX d_L_law_160 (tgt := 165) (by decide) (fun _ => ?_) (fun c => absurd (by decide) c)
  refine v_goto hX d_L_law_165 (tgt := 574) (by decide) ?_
  exact law_end hXe hX hA hr hs (by omega) (by omega)
set_option maxHeartbeats 4000000 in
set_option maxRecDepth 100000 in
theorem law_0b {p : Program} {l : Launch} {e : Env} {s : State} {m : MethodId} {below : List Frame} {meth : Method} {c : Code} {b : Nat} {sc : Nat → Int32} {D : va_G} {A : Nat → Prop} {cI cB cZ cJ cN : ClassId} {X : KX} (hXe : X = (p, l, e, room_1, s, m, #[Value.ref b], below, meth, c, lw_Z below #[Value.ref b] s)) (hX : OX X b_L_law 7 "ProsePagesLaw" TT D CL (TY cI cB cZ cJ cN) A room_1) (hA : ∀ q, A q → s.heap.size ≤ q) (hr : meth.sig.returnType = ret) (hs : va_X b 6 sc (xs X) (xs X).heap ∧ b < (xs X).heap.size ∧ ¬ A b) {loc : Nat → Nat} {val : Nat → va_E} (hv : ∀ k, Nat.ble (k + 1) 48 = true → val k = pcell cI cN loc k) (hm : ∀ k, (Nat.ble 48 k && Nat.ble (k + 1) 76) = true → val k = mcell cI cB cZ loc k) (ho : val 76 = .inl (cJ, 1, .inr (.inl (fun _ => 0)))) (hl : X.2.1 = l) {cells slots : Nat} {o5 o6 : Option Value} (hc : cells ≤ 100000) (hsl : slots ≤ 1000000) (htr : l.stackTraces = false) (hg : bB (sc 1) (sc 2)) : V X D CL A (kd 77) loc val cells slots 100 [some (.ref b), some (.ref (loc 0)), some (.ref (loc 48)), some (.ref (loc 76)), some (.int 0), o5, o6] [] := by
  refine v_aload_n hX d_L_law_100 rfl rfl ?_
  refine v_aload_n hX d_L_law_101 rfl rfl ?_
  refine v_iload hX d_L_law_102 rfl ?_
  refine v_iconst (v := 1) hX d_L_law_104 (by decide) ?_
  refine v_iaddE (v := 1) hX d_L_law_105 (by decide) ?_
  refine v_sld hX hs (v := sc 1) (vpb (by decide)) (congrArg sc (by decide)) d_L_law_106 ?_
  refine v_aload_n hX d_L_law_107 rfl rfl ?_
  refine v_iload hX d_L_law_108 rfl ?_
  refine v_iconst (v := 2) hX d_L_law_110 (by decide) ?_
  refine v_iaddE (v := 2) hX d_L_law_111 (by decide) ?_
  refine v_sld hX hs (v := sc 2) (vpb (by decide)) (congrArg sc (by decide)) d_L_law_112 ?_
  refine v_aload_n hX d_L_law_113 rfl rfl ?_
  refine c_SW hX (rest := []) hl (c_L_begin_bad hv ho (sc 1) (sc 2) (t_P_begin_bad hv _ _ hg htr)) k_262 k_263 k_0 k_264 q_L_begin ⟨(Nat.le_of_ble_eq_true rfl), (Nat.le_of_ble_eq_true rfl)⟩ rfl rfl rfl (Nat.le_of_ble_eq_true rfl) d_L_law_114 ⟨by show _ + 400 ≤ 600002; omega, by show _ + 800000 ≤ 7302232; omega⟩ (fun rv d2 lo2 va2 kc ns hp => ?_)
  obtain ⟨rfl, hk, g1, g2, g3, rfl, rfl⟩ := hp
  show V X D CL A _ _ _ _ _ _ _ [.int 2]
  refine v_istore (lv' := [some (.ref b), some (.ref (loc 0)), some (.ref (loc 48)), some (.ref (loc 76)), some (.int 0), some (.int 2), o6]) hX d_L_law_117 (Nat.le_of_ble_eq_true rfl) rfl ?_
  have e48 : lo2 48 = loc 48 := (hk 48 rfl).2.1
  have hd2 := hk.hd g1
  have hm2 := keepM.hm hk hm
  have hM := c_M_begin_bad (l := l) (D := D) (A := A) (cI := cI) (cB := cB) (cZ := cZ) (cJ := cJ) (cN := cN) hd2 hm2 (sc 1) (sc 2) hg
  rw [e48] at hM
  refine v_aload_n hX d_L_law_119 rfl rfl ?_
  refine v_aload_n hX d_L_law_120 rfl rfl ?_
  refine v_iload hX d_L_law_121 rfl ?_
  refine v_iconst (v := 1) hX d_L_law_123 (by decide) ?_
  refine v_iaddE (v := 1) hX d_L_law_124 (by decide) ?_
  refine v_sld hX hs (v := sc 1) (vpb (by decide)) (congrArg sc (by decide)) d_L_law_125 ?_
  refine v_aload_n hX d_L_law_126 rfl rfl ?_
  refine v_iload hX d_L_law_127 rfl ?_
  refine v_iconst (v := 2) hX d_L_law_129 (by decide) ?_
  refine v_iaddE (v := 2) hX d_L_law_130 (by decide) ?_
  refine v_sld hX hs (v := sc 2) (vpb (by decide)) (congrArg sc (by decide)) d_L_law_131 ?_
  refine c_V hX 48 (rest := []) hl hM k_726 k_727 k_728 k_6 k_729 rfl q_M_begin ⟨(Nat.le_of_ble_eq_true rfl), (Nat.le_of_ble_eq_true rfl)⟩ (hd2 48 rfl) e48 (hm2 48 rfl) rfl rfl rfl rfl (Nat.le_of_ble_eq_true rfl) d_L_law_132 ⟨by show _ + 300 ≤ 600002; omega, by show _ + 600000 ≤ 7302232; omega⟩ (fun rv d3 lo3 va3 kc ns hp => ?_)
  obtain ⟨rfl, ⟨xs9, h48⟩, ⟨f1, f2, f3, f4, f5⟩, rfl, rfl⟩ := hp
  show V X D CL A _ _ _ _ _ _ _ [.int 0]
  refine v_istore (lv' := [some (.ref b), some (.ref (loc 0)), some (.ref (loc 48)), some (.ref (loc 76)), some (.int 0), some (.int 2), some (.int 0)]) hX d_L_law_135 (Nat.le_of_ble_eq_true rfl) rfl ?_
  refine v_aload_n hX d_L_law_137 rfl rfl ?_
  have e483 : lo3 48 = loc 48 := f2.trans e48
  have hT := c_M_thrown (l := l) (D := D) (A := A) (cI := cI) (cB := cB) (cZ := cZ) (cJ := cJ) (cN := cN) (dom := d3) (loc := lo3) (val := va3) f1 h48
  rw [e483] at hT
  refine c_V hX 48 (rest := []) hl hT k_722 k_723 k_724 k_6 k_725 rfl q_M_thrown ⟨(Nat.le_of_ble_eq_true rfl), (Nat.le_of_ble_eq_true rfl)⟩ f1 e483 h48 rfl rfl rfl rfl (Nat.le_of_ble_eq_true rfl) d_L_law_138 ⟨by show _ + 100 ≤ 600002; omega, by show _ + 200000 ≤ 7302232; omega⟩ (fun rv d4 lo4 va4 kc ns hp => ?_)
  obtain ⟨rfl, rfl, rfl, rfl, rfl, rfl⟩ := hp
  show V X D CL A _ _ _ _ _ _ _ [.int 2]
  refine v_iload hX d_L_law_141 rfl ?_
  refine v_icmp_eq hX d_L_law_143 (tgt := 148) (by decide) (fun _ => ?_) (fun c => absurd rfl c)
  refine v_iload hX d_L_law_148 rfl ?_
  refine v_if_ne hX d_L_law_150 (tgt := 165) (by decide) (fun _ => ?_) (fun c => absurd c (by decide))
  refine v_goto hX d_L_law_165 (tgt := 574) (by decide) ?_
  exact law_end hXe hX hA hr hs (by omega) (by omega)
set_option maxHeartbeats 4000000 in
set_option maxRecDepth 100000 in
theorem law_2b {p : Program} {l : Launch} {e : Env} {s : State} {m : MethodId} {below : List Frame} {meth : Method} {c : Code} {b : Nat} {sc : Nat → Int32} {D : va_G} {A : Nat → Prop} {cI cB cZ cJ cN : ClassId} {X : KX} (hXe : X = (p, l, e, room_1, s, m, #[Value.ref b], below, meth, c, lw_Z below #[Value.ref b] s)) (hX : OX X b_L_law 7 "ProsePagesLaw" TT D CL (TY cI cB cZ cJ cN) A room_1) (hA : ∀ q, A q → s.heap.size ≤ q) (hr : meth.sig.returnType = ret) (hs : va_X b 6 sc (xs X) (xs X).heap ∧ b < (xs X).heap.size ∧ ¬ A b) {loc : Nat → Nat} {val : Nat → va_E} (hv : ∀ k, Nat.ble (k + 1) 48 = true → val k = pcell cI cN loc k) (hm : ∀ k, (Nat.ble 48 k && Nat.ble (k + 1) 76) = true → val k = mcell cI cB cZ loc k) (ho : val 76 = .inl (cJ, 1, .inr (.inl (fun _ => 0)))) (hl : X.2.1 = l) {cells slots : Nat} {o5 o6 : Option Value} (hc : cells ≤ 100000) (hsl : slots ≤ 1000000) (htr : l.stackTraces = false)  : V X D CL A (kd 77) loc val cells slots 181 [some (.ref b), some (.ref (loc 0)), some (.ref (loc 48)), some (.ref (loc 76)), some (.int 0), o5, o6] [] := by
  refine v_aload_n hX d_L_law_181 rfl rfl ?_
  refine v_aload_n hX d_L_law_182 rfl rfl ?_
  refine v_iload hX d_L_law_183 rfl ?_
  refine v_iconst (v := 1) hX d_L_law_185 (by decide) ?_
  refine v_iaddE (v := 1) hX d_L_law_186 (by decide) ?_
  refine v_sld hX hs (v := sc 1) (vpb (by decide)) (congrArg sc (by decide)) d_L_law_187 ?_
  refine v_aload_n hX d_L_law_188 rfl rfl ?_
  refine v_iload hX d_L_law_189 rfl ?_
  refine v_iconst (v := 2) hX d_L_law_191 (by decide) ?_
  refine v_iaddE (v := 2) hX d_L_law_192 (by decide) ?_
  refine v_sld hX hs (v := sc 2) (vpb (by decide)) (congrArg sc (by decide)) d_L_law_193 ?_
  refine v_aload_n hX d_L_law_194 rfl rfl ?_
  refine v_iload hX d_L_law_195 rfl ?_
  refine v_iconst (v := 3) hX d_L_law_197 (by decide) ?_
  refine v_iaddE (v := 3) hX d_L_law_198 (by decide) ?_
  refine v_sld hX hs (v := sc 3) (vpb (by decide)) (congrArg sc (by decide)) d_L_law_199 ?_
  refine v_aload_n hX d_L_law_200 rfl rfl ?_
  refine v_iload hX d_L_law_201 rfl ?_
  refine v_iconst (v := 4) hX d_L_law_203 (by decide) ?_
  refine v_iaddE (v := 4) hX d_L_law_204 (by decide) ?_
  refine v_sld hX hs (v := sc 4) (vpb (by decide)) (congrArg sc (by decide)) d_L_law_205 ?_
  refine v_aload_n hX d_L_law_206 rfl rfl ?_
  refine v_iload hX d_L_law_207 rfl ?_
  refine v_iconst (v := 5) hX d_L_law_209 (by decide) ?_
  refine v_iaddE (v := 5) hX d_L_law_210 (by decide) ?_
  refine v_sld hX hs (v := sc 5) (vpb (by decide)) (congrArg sc (by decide)) d_L_law_211 ?_
  refine v_aload_n hX d_L_law_212 rfl rfl ?_
  refine c_SW hX (rest := []) hl (c_L_say_bad hv ho (sc 1) (sc 2) (sc 3) (sc 4) (sc 5) (t_P_say hv (sc 1) (sc 2) (sc 3) (sc 4) (sc 5) htr)) k_404 k_405 k_0 k_406 q_L_say ⟨(Nat.le_of_ble_eq_true rfl), (Nat.le_of_ble_eq_true rfl)⟩ rfl rfl rfl (Nat.le_of_ble_eq_true rfl) d_L_law_213 ⟨by show _ + 400 ≤ 600002; omega, by show _ + 800000 ≤ 7302232; omega⟩ (fun rv d2 lo2 va2 kc ns hp => ?_)
  obtain ⟨rfl, hk, g1, g2, g3, rfl, rfl⟩ := hp
  show V X D CL A _ _ _ _ _ _ _ [.int 1]
  refine v_istore (lv' := [some (.ref b), some (.ref (loc 0)), some (.ref (loc 48)), some (.ref (loc 76)), some (.int 0), some (.int 1), o6]) hX d_L_law_216 (Nat.le_of_ble_eq_true rfl) rfl ?_
  have e48 : lo2 48 = loc 48 := (hk 48 rfl).2.1
  have hd2 := hk.hd g1
  have hm2 := keepM.hm hk hm
  have hM := c_M_say (l := l) (D := D) (A := A) (cI := cI) (cB := cB) (cZ := cZ) (cJ := cJ) (cN := cN) hd2 hm2 (sc 1) (sc 2) (sc 3) (sc 4) (sc 5)
  rw [e48] at hM
  refine v_aload_n hX d_L_law_218 rfl rfl ?_
  refine v_aload_n hX d_L_law_219 rfl rfl ?_
  refine v_iload hX d_L_law_220 rfl ?_
  refine v_iconst (v := 1) hX d_L_law_222 (by decide) ?_
  refine v_iaddE (v := 1) hX d_L_law_223 (by decide) ?_
  refine v_sld hX hs (v := sc 1) (vpb (by decide)) (congrArg sc (by decide)) d_L_law_224 ?_
  refine v_aload_n hX d_L_law_225 rfl rfl ?_
  refine v_iload hX d_L_law_226 rfl ?_
  refine v_iconst (v := 2) hX d_L_law_228 (by decide) ?_
  refine v_iaddE (v := 2) hX d_L_law_229 (by decide) ?_
  refine v_sld hX hs (v := sc 2) (vpb (by decide)) (congrArg sc (by decide)) d_L_law_230 ?_
  refine v_aload_n hX d_L_law_231 rfl rfl ?_
  refine v_iload hX d_L_law_232 rfl ?_
  refine v_iconst (v := 3) hX d_L_law_234 (by decide) ?_
  refine v_iaddE (v := 3) hX d_L_law_235 (by decide) ?_
  refine v_sld hX hs (v := sc 3) (vpb (by decide)) (congrArg sc (by decide)) d_L_law_236 ?_
  refine v_aload_n hX d_L_law_237 rfl rfl ?_
  refine v_iload hX d_L_law_238 rfl ?_
  refine v_iconst (v := 4) hX d_L_law_240 (by decide) ?_
  refine v_iaddE (v := 4) hX d_L_law_241 (by decide) ?_
  refine v_sld hX hs (v := sc 4) (vpb (by decide)) (congrArg sc (by decide)) d_L_law_242 ?_
  refine v_aload_n hX d_L_law_243 rfl rfl ?_
  refine v_iload hX d_L_law_244 rfl ?_
  refine v_iconst (v := 5) hX d_L_law_246 (by decide) ?_
  refine v_iaddE (v := 5) hX d_L_law_247 (by decide) ?_
  refine v_sld hX hs (v := sc 5) (vpb (by decide)) (congrArg sc (by decide)) d_L_law_248 ?_
  refine c_V hX 48 (rest := []) hl hM k_752 k_753 k_754 k_6 k_755 rfl q_M_say ⟨(Nat.le_of_ble_eq_true rfl), (Nat.le_of_ble_eq_true rfl)⟩ (hd2 48 rfl) e48 (hm2 48 rfl) rfl rfl rfl rfl (Nat.le_of_ble_eq_true rfl) d_L_law_249 ⟨by show _ + 300 ≤ 600002; omega, by show _ + 600000 ≤ 7302232; omega⟩ (fun rv d3 lo3 va3 kc ns hp => ?_)
  obtain ⟨rfl, ⟨xs9, h48⟩, ⟨f1, f2, f3, f4, f5⟩, rfl, rfl⟩ := hp
  show V X D CL A _ _ _ _ _ _ _ [.int 0]
  refine v_istore (lv' := [some (.ref b), some (.ref (loc 0)), some (.ref (loc 48)), some (.ref (loc 76)), some (.int 0), some (.int 1), some (.int 0)]) hX d_L_law_252 (Nat.le_of_ble_eq_true rfl) rfl ?_
  refine v_aload_n hX d_L_law_254 rfl rfl ?_
  have e483 : lo3 48 = loc 48 := f2.trans e48
  have hT := c_M_thrown (l := l) (D := D) (A := A) (cI := cI) (cB := cB) (cZ := cZ) (cJ := cJ) (cN := cN) (dom := d3) (loc := lo3) (val := va3) f1 h48
  rw [e483] at hT
  refine c_V hX 48 (rest := []) hl hT k_722 k_723 k_724 k_6 k_725 rfl q_M_thrown ⟨(Nat.le_of_ble_eq_true rfl), (Nat.le_of_ble_eq_true rfl)⟩ f1 e483 h48 rfl rfl rfl rfl (Nat.le_of_ble_eq_true rfl) d_L_law_255 ⟨by show _ + 100 ≤ 600002; omega, by show _ + 200000 ≤ 7302232; omega⟩ (fun rv d4 lo4 va4 kc ns hp => ?_)
  obtain ⟨rfl, rfl, rfl, rfl, rfl, rfl⟩ := hp
  show V X D CL A _ _ _ _ _ _ _ [.int 1]
  refine v_iload hX d_L_law_258 rfl ?_
  refine v_icmp_eq hX d_L_law_260 (tgt := 265) (by decide) (fun _ => ?_) (fun c => absurd rfl c)
  refine v_iload hX d_L_law_265 rfl ?_
  refine v_if_ne hX d_L_law_267 (tgt := 282) (by decide) (fun _ => ?_) (fun c => absurd c (by decide))
  refine v_goto hX d_L_law_282 (tgt := 574) (by decide) ?_
  exact law_end hXe hX hA hr hs (by omega) (by omega)
set_option maxHeartbeats 4000000 in
set_option maxRecDepth 100000 in
theorem law_4b {p : Program} {l : Launch} {e : Env} {s : State} {m : MethodId} {below : List Frame} {meth : Method} {c : Code} {b : Nat} {sc : Nat → Int32} {D : va_G} {A : Nat → Prop} {cI cB cZ cJ cN : ClassId} {X : KX} (hXe : X = (p, l, e, room_1, s, m, #[Value.ref b], below, meth, c, lw_Z below #[Value.ref b] s)) (hX : OX X b_L_law 7 "ProsePagesLaw" TT D CL (TY cI cB cZ cJ cN) A room_1) (hA : ∀ q, A q → s.heap.size ≤ q) (hr : meth.sig.returnType = ret) (hs : va_X b 6 sc (xs X) (xs X).heap ∧ b < (xs X).heap.size ∧ ¬ A b) {loc : Nat → Nat} {val : Nat → va_E} (hv : ∀ k, Nat.ble (k + 1) 48 = true → val k = pcell cI cN loc k) (hm : ∀ k, (Nat.ble 48 k && Nat.ble (k + 1) 76) = true → val k = mcell cI cB cZ loc k) (ho : val 76 = .inl (cJ, 1, .inr (.inl (fun _ => 0)))) (hl : X.2.1 = l) {cells slots : Nat} {o5 o6 : Option Value} (hc : cells ≤ 100000) (hsl : slots ≤ 1000000) (htr : l.stackTraces = false) (hg : sc 1 < 5 ∨ 40 < sc 1 ∨ sc 2 < 8 ∨ 60 < sc 2) : V X D CL A (kd 77) loc val cells slots 296 [some (.ref b), some (.ref (loc 0)), some (.ref (loc 48)), some (.ref (loc 76)), some (.int 0), o5, o6] [] := by
  refine v_aload_n hX d_L_law_296 rfl rfl ?_
  refine v_aload_n hX d_L_law_297 rfl rfl ?_
  refine v_iload hX d_L_law_298 rfl ?_
  refine v_iconst (v := 1) hX d_L_law_300 (by decide) ?_
  refine v_iaddE (v := 1) hX d_L_law_301 (by decide) ?_
  refine v_sld hX hs (v := sc 1) (vpb (by decide)) (congrArg sc (by decide)) d_L_law_302 ?_
  refine v_aload_n hX d_L_law_303 rfl rfl ?_
  refine v_iload hX d_L_law_304 rfl ?_
  refine v_iconst (v := 2) hX d_L_law_306 (by decide) ?_
  refine v_iaddE (v := 2) hX d_L_law_307 (by decide) ?_
  refine v_sld hX hs (v := sc 2) (vpb (by decide)) (congrArg sc (by decide)) d_L_law_308 ?_
  refine v_aload_n hX d_L_law_309 rfl rfl ?_
  refine c_SW hX (rest := []) hl (c_L_pages_bad hv ho (sc 1) (sc 2) (t_P_pages hv _ _ hg htr)) k_417 k_418 k_0 k_419 q_L_pages ⟨(Nat.le_of_ble_eq_true rfl), (Nat.le_of_ble_eq_true rfl)⟩ rfl rfl rfl (Nat.le_of_ble_eq_true rfl) d_L_law_310 ⟨by show _ + 700 ≤ 600002; omega, by show _ + 1400000 ≤ 7302232; omega⟩ (fun rv d2 lo2 va2 kc ns hp => ?_)
  obtain ⟨rfl, hk, g1, g2, g3, rfl, rfl⟩ := hp
  show V X D CL A _ _ _ _ _ _ _ [.int 1]
  refine v_istore (lv' := [some (.ref b), some (.ref (loc 0)), some (.ref (loc 48)), some (.ref (loc 76)), some (.int 0), some (.int 1), o6]) hX d_L_law_313 (Nat.le_of_ble_eq_true rfl) rfl ?_
  have e48 : lo2 48 = loc 48 := (hk 48 rfl).2.1
  have hd2 := hk.hd g1
  have hm2 := keepM.hm hk hm
  have hM := c_M_pages_bad (l := l) (D := D) (A := A) (cI := cI) (cB := cB) (cZ := cZ) (cJ := cJ) (cN := cN) hd2 hm2 (sc 1) (sc 2) hg
  rw [e48] at hM
  refine v_aload_n hX d_L_law_315 rfl rfl ?_
  refine v_aload_n hX d_L_law_316 rfl rfl ?_
  refine v_iload hX d_L_law_317 rfl ?_
  refine v_iconst (v := 1) hX d_L_law_319 (by decide) ?_
  refine v_iaddE (v := 1) hX d_L_law_320 (by decide) ?_
  refine v_sld hX hs (v := sc 1) (vpb (by decide)) (congrArg sc (by decide)) d_L_law_321 ?_
  refine v_aload_n hX d_L_law_322 rfl rfl ?_
  refine v_iload hX d_L_law_323 rfl ?_
  refine v_iconst (v := 2) hX d_L_law_325 (by decide) ?_
  refine v_iaddE (v := 2) hX d_L_law_326 (by decide) ?_
  refine v_sld hX hs (v := sc 2) (vpb (by decide)) (congrArg sc (by decide)) d_L_law_327 ?_
  refine c_V hX 48 (rest := []) hl hM k_760 k_761 k_762 k_6 k_763 rfl q_M_pages ⟨(Nat.le_of_ble_eq_true rfl), (Nat.le_of_ble_eq_true rfl)⟩ (hd2 48 rfl) e48 (hm2 48 rfl) rfl rfl rfl rfl (Nat.le_of_ble_eq_true rfl) d_L_law_328 ⟨by show _ + 200 ≤ 600002; omega, by show _ + 400000 ≤ 7302232; omega⟩ (fun rv d3 lo3 va3 kc ns hp => ?_)
  obtain ⟨rfl, ⟨xs9, h48⟩, ⟨f1, f2, f3, f4, f5⟩, rfl, rfl⟩ := hp
  show V X D CL A _ _ _ _ _ _ _ [.int 0]
  refine v_istore (lv' := [some (.ref b), some (.ref (loc 0)), some (.ref (loc 48)), some (.ref (loc 76)), some (.int 0), some (.int 1), some (.int 0)]) hX d_L_law_331 (Nat.le_of_ble_eq_true rfl) rfl ?_
  refine v_aload_n hX d_L_law_333 rfl rfl ?_
  have e483 : lo3 48 = loc 48 := f2.trans e48
  have hT := c_M_thrown (l := l) (D := D) (A := A) (cI := cI) (cB := cB) (cZ := cZ) (cJ := cJ) (cN := cN) (dom := d3) (loc := lo3) (val := va3) f1 h48
  rw [e483] at hT
  refine c_V hX 48 (rest := []) hl hT k_722 k_723 k_724 k_6 k_725 rfl q_M_thrown ⟨(Nat.le_of_ble_eq_true rfl), (Nat.le_of_ble_eq_true rfl)⟩ f1 e483 h48 rfl rfl rfl rfl (Nat.le_of_ble_eq_true rfl) d_L_law_334 ⟨by show _ + 100 ≤ 600002; omega, by show _ + 200000 ≤ 7302232; omega⟩ (fun rv d4 lo4 va4 kc ns hp => ?_)
  obtain ⟨rfl, rfl, rfl, rfl, rfl, rfl⟩ := hp
  show V X D CL A _ _ _ _ _ _ _ [.int 1]
  refine v_iload hX d_L_law_337 rfl ?_
  refine v_icmp_eq hX d_L_law_339 (tgt := 344) (by decide) (fun _ => ?_) (fun c => absurd rfl c)
  refine v_iload hX d_L_law_344 rfl ?_
  refine v_if_ne hX d_L_law_346 (tgt := 361) (by decide) (fun _ => ?_) (fun c => absurd c (by decide))
  refine v_goto hX d_L_law_361 (tgt := 574) (by decide) ?_
  exact law_end hXe hX hA hr hs (by omega) (by omega)
set_option maxHeartbeats 4000000 in
set_option maxRecDepth 100000 in
theorem law_4g {p : Program} {l : Launch} {e : Env} {s : State} {m : MethodId} {below : List Frame} {meth : Method} {c : Code} {b : Nat} {sc : Nat → Int32} {D : va_G} {A : Nat → Prop} {cI cB cZ cJ cN : ClassId} {X : KX} (hXe : X = (p, l, e, room_1, s, m, #[Value.ref b], below, meth, c, lw_Z below #[Value.ref b] s)) (hX : OX X b_L_law 7 "ProsePagesLaw" TT D CL (TY cI cB cZ cJ cN) A room_1) (hA : ∀ q, A q → s.heap.size ≤ q) (hr : meth.sig.returnType = ret) (hs : va_X b 6 sc (xs X) (xs X).heap ∧ b < (xs X).heap.size ∧ ¬ A b) {loc : Nat → Nat} {val : Nat → va_E} (hv : ∀ k, Nat.ble (k + 1) 48 = true → val k = pcell cI cN loc k) (hm : ∀ k, (Nat.ble 48 k && Nat.ble (k + 1) 76) = true → val k = mcell cI cB cZ loc k) (ho : val 76 = .inl (cJ, 1, .inr (.inl (fun _ => 0)))) (hl : X.2.1 = l) {cells slots : Nat} {o5 o6 : Option Value} (hc : cells ≤ 100000) (hsl : slots ≤ 1000000) (htr : l.stackTraces = false) (hg : ¬ (sc 1 < 5 ∨ 40 < sc 1 ∨ sc 2 < 8 ∨ 60 < sc 2)) : V X D CL A (kd 77) loc val cells slots 296 [some (.ref b), some (.ref (loc 0)), some (.ref (loc 48)), some (.ref (loc 76)), some (.int 0), o5, o6] [] := by
  refine v_aload_n hX d_L_law_296 rfl rfl ?_
  refine v_aload_n hX d_L_law_297 rfl rfl ?_
  refine v_iload hX d_L_law_298 rfl ?_
  refine v_iconst (v := 1) hX d_L_law_300 (by decide) ?_
  refine v_iaddE (v := 1) hX d_L_law_301 (by decide) ?_
  refine v_sld hX hs (v := sc 1) (vpb (by decide)) (congrArg sc (by decide)) d_L_law_302 ?_
  refine v_aload_n hX d_L_law_303 rfl rfl ?_
  refine v_iload hX d_L_law_304 rfl ?_
  refine v_iconst (v := 2) hX d_L_law_306 (by decide) ?_
  refine v_iaddE (v := 2) hX d_L_law_307 (by decide) ?_
  refine v_sld hX hs (v := sc 2) (vpb (by decide)) (congrArg sc (by decide)) d_L_law_308 ?_
  refine v_aload_n hX d_L_law_309 rfl rfl ?_
  refine c_SW hX (rest := []) hl (c_L_pages_ok hv ho (sc 1) (sc 2) (c_P_pages_ok hv _ _ (fun h => hg (Or.inl h)) (fun h => hg (Or.inr (Or.inl h))) (fun h => hg (Or.inr (Or.inr (Or.inl h)))) (Int32.not_lt.mp (fun h => hg (Or.inr (Or.inr (Or.inr h))))))) k_417 k_418 k_0 k_419 q_L_pages ⟨(Nat.le_of_ble_eq_true rfl), (Nat.le_of_ble_eq_true rfl)⟩ rfl rfl rfl (Nat.le_of_ble_eq_true rfl) d_L_law_310 ⟨by show _ + 700 ≤ 600002; omega, by show _ + 1400000 ≤ 7302232; omega⟩ (fun rv d2 lo2 va2 kc ns hp => ?_)
  obtain ⟨rfl, hk, g1, g2, g3, rfl, rfl⟩ := hp
  show V X D CL A _ _ _ _ _ _ _ [.int 0]
  refine v_istore (lv' := [some (.ref b), some (.ref (loc 0)), some (.ref (loc 48)), some (.ref (loc 76)), some (.int 0), some (.int 0), o6]) hX d_L_law_313 (Nat.le_of_ble_eq_true rfl) rfl ?_
  have e48 : lo2 48 = loc 48 := (hk 48 rfl).2.1
  have hd2 := hk.hd g1
  have hm2 := keepM.hm hk hm
  have hM := c_M_pages_ok (l := l) (D := D) (A := A) (cI := cI) (cB := cB) (cZ := cZ) (cJ := cJ) (cN := cN) hd2 hm2 (sc 1) (sc 2) (fun h => hg (Or.inl h)) (fun h => hg (Or.inr (Or.inl h))) (fun h => hg (Or.inr (Or.inr (Or.inl h)))) (Int32.not_lt.mp (fun h => hg (Or.inr (Or.inr (Or.inr h))))) (i32_8 (fun h => hg (Or.inr (Or.inr (Or.inl h)))))
  rw [e48] at hM
  refine v_aload_n hX d_L_law_315 rfl rfl ?_
  refine v_aload_n hX d_L_law_316 rfl rfl ?_
  refine v_iload hX d_L_law_317 rfl ?_
  refine v_iconst (v := 1) hX d_L_law_319 (by decide) ?_
  refine v_iaddE (v := 1) hX d_L_law_320 (by decide) ?_
  refine v_sld hX hs (v := sc 1) (vpb (by decide)) (congrArg sc (by decide)) d_L_law_321 ?_
  refine v_aload_n hX d_L_law_322 rfl rfl ?_
  refine v_iload hX d_L_law_323 rfl ?_
  refine v_iconst (v := 2) hX d_L_law_325 (by decide) ?_
  refine v_iaddE (v := 2) hX d_L_law_326 (by decide) ?_
  refine v_sld hX hs (v := sc 2) (vpb (by decide)) (congrArg sc (by decide)) d_L_law_327 ?_
  refine c_V hX 48 (rest := []) hl hM k_760 k_761 k_762 k_6 k_763 rfl q_M_pages ⟨(Nat.le_of_ble_eq_true rfl), (Nat.le_of_ble_eq_true rfl)⟩ (hd2 48 rfl) e48 (hm2 48 rfl) rfl rfl rfl rfl (Nat.le_of_ble_eq_true rfl) d_L_law_328 ⟨by show _ + 400 ≤ 600002; omega, by show _ + 800000 ≤ 7302232; omega⟩ (fun rv d3 lo3 va3 kc ns hp => ?_)
  obtain ⟨rfl, ⟨xs9, h48⟩, ⟨f1, f2, f3, f4, f5⟩, rfl, rfl⟩ := hp
  show V X D CL A _ _ _ _ _ _ _ [.int 1]
  refine v_istore (lv' := [some (.ref b), some (.ref (loc 0)), some (.ref (loc 48)), some (.ref (loc 76)), some (.int 0), some (.int 0), some (.int 1)]) hX d_L_law_331 (Nat.le_of_ble_eq_true rfl) rfl ?_
  refine v_aload_n hX d_L_law_333 rfl rfl ?_
  have e483 : lo3 48 = loc 48 := f2.trans e48
  have hT := c_M_thrown (l := l) (D := D) (A := A) (cI := cI) (cB := cB) (cZ := cZ) (cJ := cJ) (cN := cN) (dom := d3) (loc := lo3) (val := va3) f1 h48
  rw [e483] at hT
  refine c_V hX 48 (rest := []) hl hT k_722 k_723 k_724 k_6 k_725 rfl q_M_thrown ⟨(Nat.le_of_ble_eq_true rfl), (Nat.le_of_ble_eq_true rfl)⟩ f1 e483 h48 rfl rfl rfl rfl (Nat.le_of_ble_eq_true rfl) d_L_law_334 ⟨by show _ + 100 ≤ 600002; omega, by show _ + 200000 ≤ 7302232; omega⟩ (fun rv d4 lo4 va4 kc ns hp => ?_)
  obtain ⟨rfl, rfl, rfl, rfl, rfl, rfl⟩ := hp
  show V X D CL A _ _ _ _ _ _ _ [.int 0]
  refine v_iload hX d_L_law_337 rfl ?_
  refine v_icmp_eq hX d_L_law_339 (tgt := 344) (by decide) (fun _ => ?_) (fun c => absurd rfl c)
  refine v_iload hX d_L_law_344 rfl ?_
  refine v_if_ne hX d_L_law_346 (tgt := 361) (by decide) (fun c => absurd (by decide) c) (fun _ => ?_)
  refine v_aload_n hX d_L_law_349 rfl rfl ?_
  refine v_iconst (v := 0) hX d_L_law_350 (by decide) ?_
  refine v_lald hX 76 3 (v := 1) f3 (f4.trans g2) (f5.trans g3) rfl (vpb (by decide)) (by decide) d_L_law_351 ?_
  refine v_iload hX d_L_law_352 rfl ?_
  refine v_i2l (v := 1) hX d_L_law_354 (by decide) ?_
  refine v_lcmp hX d_L_law_355 ?_
  refine v_if_eq hX d_L_law_356 (tgt := 361) (by decide) (fun _ => ?_) (fun c => absurd (by decide) c)
  refine v_goto hX d_L_law_361 (tgt := 574) (by decide) ?_
  exact law_end hXe hX hA hr hs (by omega) (by omega)
