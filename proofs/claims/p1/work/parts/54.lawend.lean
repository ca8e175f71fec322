theorem v_sld {X : KX} {D : va_G} {A : Nat → Prop} {b L : Nat} {sc : Nat → Int32} {dom : Nat → Prop} {loc : Nat → Nat} {val : Nat → va_E} {cells slots pc nL : Nat} {own : String} {R : Room} {cc : ByteArray} {tys : List (ClassId × FieldType)} {lv : List (Option Value)} {st : List Value} (hX : OX X cc nL own TT D CL tys A R) (hs : va_X b L sc (xs X) (xs X).heap ∧ b < (xs X).heap.size ∧ ¬ A b) {i v : Int32} (hin : vp_in i L) (hv : sc i.toNatClampNeg = v) (hd : decode cc pc = .ok (.iaload, 1)) (kk : V X D CL A dom loc val cells slots (pc + 1) lv (.int v :: st)) : V X D CL A dom loc val cells slots pc lv (.int i :: .ref b :: st) := fun H locs ls hW hS hl => by
  subst hv
  exact va_sld hX.1 hX.2.1 hs.1 hs.2.1 hs.2.2 hS hin hd (kk H locs ls hW hS hl)
theorem v_slen {X : KX} {D : va_G} {A : Nat → Prop} {b L : Nat} {sc : Nat → Int32} {dom : Nat → Prop} {loc : Nat → Nat} {val : Nat → va_E} {cells slots pc nL : Nat} {own : String} {R : Room} {cc : ByteArray} {tys : List (ClassId × FieldType)} {lv : List (Option Value)} {st : List Value} (hX : OX X cc nL own TT D CL tys A R) (hs : va_X b L sc (xs X) (xs X).heap ∧ b < (xs X).heap.size ∧ ¬ A b) (hd : decode cc pc = .ok (.arraylength, 1)) (kk : V X D CL A dom loc val cells slots (pc + 1) lv (.int (Int32.ofNat L) :: st)) : V X D CL A dom loc val cells slots pc lv (.ref b :: st) := fun H locs ls hW hS hl => va_slen hX.1 hX.2.1 hs.1 hs.2.1 hs.2.2 hS hd (kk H locs ls hW hS hl)
set_option maxHeartbeats 4000000 in
set_option maxRecDepth 100000 in
theorem law_out {p : Program} {l : Launch} {e : Env} {s : State} {m : MethodId} {below : List Frame} {meth : Method} {c : Code} {b : Nat} {D : va_G} {A : Nat → Prop} {cI cB cZ cJ cN : ClassId} {X : KX} (hXe : X = (p, l, e, room_1, s, m, #[Value.ref b], below, meth, c, lw_Z below #[Value.ref b] s)) (hX : OX X b_L_law 7 "ProsePagesLaw" TT D CL (TY cI cB cZ cJ cN) A room_1) (hA : ∀ q, A q → s.heap.size ≤ q) (hr : meth.sig.returnType = ret) {dom : Nat → Prop} {loc : Nat → Nat} {val : Nat → va_E} {cells slots : Nat} (hc : cells ≤ 600002) (hsl : slots ≤ 7302232) {lv : List (Option Value)} : V X D CL A dom loc val cells slots 580 lv [] := by
  refine v_iconst (v := 1) hX d_L_law_580 (by decide) ?_
  subst hXe
  obtain ⟨hx, hb, hml, ho, hts, hK, hA9, hlocks, hR2, hN⟩ := hX
  exact fun H locs ls hW hS hl => va_forget (fun q hq => hA _ (hS.2.2 q hq)) (W.widen hc hsl (lw_ret hx hb hr hlocks d_L_law_581))
set_option maxHeartbeats 4000000 in
set_option maxRecDepth 100000 in
theorem law_end {p : Program} {l : Launch} {e : Env} {s : State} {m : MethodId} {below : List Frame} {meth : Method} {c : Code} {b : Nat} {sc : Nat → Int32} {D : va_G} {A : Nat → Prop} {cI cB cZ cJ cN : ClassId} {X : KX} (hXe : X = (p, l, e, room_1, s, m, #[Value.ref b], below, meth, c, lw_Z below #[Value.ref b] s)) (hX : OX X b_L_law 7 "ProsePagesLaw" TT D CL (TY cI cB cZ cJ cN) A room_1) (hA : ∀ q, A q → s.heap.size ≤ q) (hr : meth.sig.returnType = ret) (hs : va_X b 6 sc (xs X) (xs X).heap ∧ b < (xs X).heap.size ∧ ¬ A b) {dom : Nat → Prop} {loc : Nat → Nat} {val : Nat → va_E} {cells slots : Nat} {x1 x2 x3 o5 o6 : Option Value} (hc : cells ≤ 600002) (hsl : slots ≤ 7302232) : V X D CL A dom loc val cells slots 574 [some (.ref b), x1, x2, x3, some (.int 0), o5, o6] [] := by
  refine v_iinc (y := 6) (lv' := [some (.ref b), x1, x2, x3, some (.int 6), o5, o6]) hX d_L_law_574 rfl (by decide) rfl ?_
  refine v_goto hX d_L_law_577 (tgt := 23) (by decide) ?_
  refine v_iload hX d_L_law_23 rfl ?_
  refine v_aload_n hX d_L_law_25 rfl rfl ?_
  refine v_slen hX hs d_L_law_26 ?_
  refine v_bipush (v := 6) hX d_L_law_27 (by decide) ?_
  refine v_isubE (v := 0) hX d_L_law_29 (by decide) ?_
  refine v_icmp_gt hX d_L_law_30 (tgt := 580) (by decide) (fun _ => ?_) (fun c => absurd (by decide) c)
  exact law_out hXe hX hA hr hc hsl
