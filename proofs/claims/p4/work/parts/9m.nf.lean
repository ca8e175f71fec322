section KN
theorem x_lays {C n d : String} {a a' : Array Value} {s U : State} (hvm : s.vm.Alike U.vm) (hq : ∀ q : Nat, q < s.heap.size → U.heap[q]? = s.heap[q]?) (h : (Cond.laysStatic C n d).before a s = true) : (Cond.laysStatic C n d).before a' U = true := by
  obtain ⟨c, k, i, f, x, cell, h1, h2, h3, h4, h5, h6, h7, h8, h9⟩ := Cond.laysStatic_spec h
  obtain ⟨k', hi', he⟩ := State.fieldFound?_setVm hvm h2
  show (Cond.laysStatic C n d).holds a' U none U [] = true
  exact Cond.laysStatic_of (by rw [hvm.findClass]; exact h1) hi' h3 (by rw [he]; exact h4) (by rw [hq x (Array.getElem?_eq_some_iff.mp h5).1]; exact h5) h6 h7 h8 (by rw [he]; exact h9)
theorem x_zref {C n d : String} {v : Value} {A : Nat → Prop} {U : State} {a : Array Value} (h : va_Z C n d v A U U.heap) (hv : v.isRef = true) : (Cond.isRef (.static C n d)).before a U = true := by
  obtain ⟨cf, kf, fi, f, x, cell, h1, h2, h3, h4, h5, h6, h7, -⟩ := h
  have he : (Term.static C n d).eval a U none [] U = some v := by simp [Term.eval, State.fieldNamed?, h1, h2, h4, h5, h6, h7]
  simp only [Cond.before, Cond.holds, Cond.value, he]
  cases v <;> simp_all [Value.isRef]
theorem x_isref {C n d : String} {a a' : Array Value} {s U : State} (hvm : s.vm.Alike U.vm) (hq : ∀ q : Nat, q < s.heap.size → U.heap[q]? = s.heap[q]?) (hl : (Cond.laysStatic C n d).before a s = true) (hi : (Cond.initialized C).before a s = true) (h : (Cond.isRef (.static C n d)).before a s = true) : (Cond.isRef (.static C n d)).before a' U = true := by
  have z : va_Zq C n d (fun _ => False) U U.heap := va_Zq.moved hvm ((va_Zqof hl hi h (fun _ _ h => h)).kept (fun q h1 _ => hq q h1))
  rcases z with z | ⟨t, z⟩
  · exact x_zref z rfl
  · exact x_zref z rfl
theorem x_nc {C T : String} {a a' : Array Value} {s U : State} (hvm : s.vm.Alike U.vm) (h : (Cond.not (.castable C T)).before a s = true) : (Cond.not (.castable C T)).before a' U = true := by
  obtain ⟨c, t, h1, h2, h3⟩ := (va_Nc.of h).moved hvm
  show (Cond.not (.castable C T)).holds a' U none U [] = true
  exact Cond.holds_not_iff.mpr (by simp [Cond.value, h1, h2, h3])
set_option maxHeartbeats 4000000 in
set_option maxRecDepth 100000 in
theorem law_nf {s : State} {b : Nat} (hts : ∀ w ∈ lw_tbl, w.before #[Value.ref b] s = true) (hgv : (Jvm.Cond.and given_1 narrow_1).before #[Value.ref b] s = true) : kN (fun q => s.heap.size ≤ q) s := by
  intro U hW hq
  have hq' : ∀ q : Nat, q < s.heap.size → U.heap[q]? = s.heap[q]? := fun q h => hq q h (Nat.not_le.mpr h)
  have hfl := flat_of_before _ hgv
  have hini : (Cond.initialized "java/lang/Throwable").before #[Value.ref b] s = true := hts _ (by decide +kernel)
  have hl1 : (Cond.laysStatic "java/lang/Throwable" "UNASSIGNED_STACK" "[Ljava/lang/StackTraceElement;").before #[Value.ref b] s = true := hts _ (by decide +kernel)
  have hl2 : (Cond.laysStatic "java/lang/Throwable" "SUPPRESSED_SENTINEL" "Ljava/util/List;").before #[Value.ref b] s = true := hts _ (by decide +kernel)
  refine ⟨fun w hw => ?_, va_AO.moved hW.alike (va_AO.of (hts (.arrayOver (.object "ProsePages$Node")) (by decide +kernel))), fun q hq9 => ?_⟩
  · simp only [nfw, List.mem_cons, List.not_mem_nil, or_false] at hw
    rcases hw with rfl | rfl | rfl | rfl | rfl | rfl | rfl | rfl | rfl | rfl | rfl | rfl | rfl | rfl | rfl | rfl | rfl | rfl
    · exact va_Nw.warmM hW (va_Nw.of rfl (hts _ (by decide +kernel)))
    · exact va_Nw.warmM hW (va_Nw.of rfl (hts _ (by decide +kernel)))
    · exact va_Nw.warmM hW (va_Nw.of rfl (hts _ (by decide +kernel)))
    · exact va_Nw.warmM hW (va_Nw.of rfl (hts _ (by decide +kernel)))
    · exact va_Nw.warmM hW (va_Nw.of rfl (hts _ (by decide +kernel)))
    · exact va_Nw.warmM hW (va_Nw.of rfl (hts _ (by decide +kernel)))
    · exact va_Nw.warmM hW (va_Nw.of rfl (hts _ (by decide +kernel)))
    · exact va_Nw.warmC hW (va_Nw.of rfl (hts _ (by decide +kernel)))
    · exact va_Nw.warmC hW (va_Nw.of rfl (hts _ (by decide +kernel)))
    · exact x_lays hW.alike hq' hl1
    · exact x_lays hW.alike hq' hl2
    · exact x_isref hW.alike hq' hl1 hini (hfl _ (by decide +kernel))
    · exact x_isref hW.alike hq' hl2 hini (hfl _ (by decide +kernel))
    · exact x_nc hW.alike (hfl _ (by decide +kernel))
    · exact x_nc hW.alike (hfl _ (by decide +kernel))
    · exact va_Nw.warmD hW (va_Nw.of rfl (hts _ (by decide +kernel)))
    · exact va_Nw.warmD hW (va_Nw.of rfl (hts _ (by decide +kernel)))
    · exact va_Nw.warmD hW (va_Nw.of rfl (hts _ (by decide +kernel)))
  · simp only [nfs, List.mem_cons, List.not_mem_nil, or_false] at hq9
    rcases hq9 with rfl | rfl | rfl | rfl | rfl | rfl | rfl
    · obtain ⟨a, _, _, _, h1, -⟩ := Cond.exactly_spec (hfl (.exactly (.string "ProsePages" 49) "java/lang/String") (by decide +kernel))
      exact ⟨a, vk_R.warm hW (vk_R.of (hts (.stringRef "ProsePages" 49 "no room for one more node here") (by decide +kernel)) h1)⟩
    · obtain ⟨a, _, _, _, h1, -⟩ := Cond.exactly_spec (hfl (.exactly (.string "ProsePages" 60) "java/lang/String") (by decide +kernel))
      exact ⟨a, vk_R.warm hW (vk_R.of (hts (.stringRef "ProsePages" 60 "no such kind, or not here") (by decide +kernel)) h1)⟩
    · obtain ⟨a, _, _, _, h1, -⟩ := Cond.exactly_spec (hfl (.exactly (.string "ProsePages" 67) "java/lang/String") (by decide +kernel))
      exact ⟨a, vk_R.warm hW (vk_R.of (hts (.stringRef "ProsePages" 67 "no such level or number") (by decide +kernel)) h1)⟩
    · obtain ⟨a, _, _, _, h1, -⟩ := Cond.exactly_spec (hfl (.exactly (.string "ProsePages" 99) "java/lang/String") (by decide +kernel))
      exact ⟨a, vk_R.warm hW (vk_R.of (hts (.stringRef "ProsePages" 99 "not 1 to 4 characters, or no text may be here") (by decide +kernel)) h1)⟩
    · obtain ⟨a, _, _, _, h1, -⟩ := Cond.exactly_spec (hfl (.exactly (.string "ProsePages" 104) "java/lang/String") (by decide +kernel))
      exact ⟨a, vk_R.warm hW (vk_R.of (hts (.stringRef "ProsePages" 104 "too many characters") (by decide +kernel)) h1)⟩
    · obtain ⟨a, _, _, _, h1, -⟩ := Cond.exactly_spec (hfl (.exactly (.string "ProsePages" 126) "java/lang/String") (by decide +kernel))
      exact ⟨a, vk_R.warm hW (vk_R.of (hts (.stringRef "ProsePages" 126 "no such rows or columns") (by decide +kernel)) h1)⟩
    · obtain ⟨a, _, _, _, h1, -⟩ := Cond.exactly_spec (hfl (.exactly (.string "ProsePages" 142) "java/lang/String") (by decide +kernel))
      exact ⟨a, vk_R.warm hW (vk_R.of (hts (.stringRef "ProsePages" 142 "too many lines") (by decide +kernel)) h1)⟩
end KN
