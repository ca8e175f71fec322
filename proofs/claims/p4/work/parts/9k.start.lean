section KSt
/-- the reference's state at its beginning -/
def C00 : CT := (0, 0, 0, 0, 0, 0, 0, fun _ => 0, fun _ => 0, fun _ => 0, fun _ => 0, fun _ => 0, fun _ => 0, fun _ => 0, fun _ => 0)
def M00 : TS := (fun _ => 0, fun _ => 0, fun _ => 0, fun _ => 0, fun _ => 0, fun _ => 0, fun _ => 0, fun _ => 0, 0, 0, 0, 0, fun _ => 1)
def O00 : OS := (0, 0, 0, 0, 0, 0, 0, fun _ => 0, fun _ => 0, fun _ => 0, fun _ => 0, fun _ => 0, fun _ => 0, fun _ => 0, fun _ => 0, fun _ => 0, fun _ => 0, fun _ => 0)
def rs00 : RS := fun _ => (0, 16)
def sh00 : Nat → Int32 × Int32 × Int32 := fun _ => (0, 0, 0)
theorem OI00 : OI O00 := ⟨fun _ => Or.inl (by decide : (0 : Int) ≤ (0 : Int32).toInt), fun _ => (by decide : (0 : Int32).toInt ≤ 3000), (by decide : 0 ≤ 1500), (by decide : 0 ≤ 300), (by decide : 0 ≤ 4300)⟩
theorem De00 : (fun i => nI (ttDe (clT M00) i)) = upd (fun _ => 0) (Int32.toNatClampNeg 0) 1 := (updN_nI (f := fun _ => 0) (k := 0) (x := 1)).symm
theorem Ma00 : (fun i => nI (ttMa (clT M00) i)) = upd (fun _ => 0) (Int32.toNatClampNeg 0) 0 := (updN_nI (f := fun _ => 0) (k := 0) (x := 0)).symm
variable {cI cB cZ cJ cN : ClassId} {loc : Nat → Nat} {val : Nat → va_E}
theorem mar00 : mar cI cB cZ C00 (clT M00) O00 = (mlist cI cB cZ loc).drop 1 := by
  have e1 := De00
  have e2 := Ma00
  unfold mar
  rw [e1, e2]
  rfl
theorem mfs00 (ob : Nat → Nat) : (.inr (5, mfs ob C00 (clT M00) O00) : va_E) = mcell cI cB cZ ob 48 := rfl
theorem pcell_cg {l2 : Nat → Nat} (h : ∀ k, k < 48 → l2 k = loc k) (k : Nat) : pcell cI cN l2 k = pcell cI cN loc k := by
  have e : plist cI cN l2 = plist cI cN loc := by
    unfold plist
    simp only [h 1 (by omega), h 2 (by omega), h 3 (by omega), h 4 (by omega), h 5 (by omega), h 6 (by omega), h 7 (by omega), h 8 (by omega), h 9 (by omega), h 10 (by omega), h 11 (by omega), h 12 (by omega), h 13 (by omega), h 14 (by omega), h 15 (by omega), h 16 (by omega), h 17 (by omega), h 18 (by omega), h 19 (by omega), h 20 (by omega), h 21 (by omega), h 22 (by omega), h 23 (by omega), h 24 (by omega), h 25 (by omega), h 26 (by omega), h 27 (by omega), h 28 (by omega), h 29 (by omega), h 30 (by omega), h 31 (by omega), h 32 (by omega), h 33 (by omega), h 34 (by omega), h 35 (by omega), h 36 (by omega), h 37 (by omega), h 38 (by omega), h 39 (by omega), h 40 (by omega), h 41 (by omega), h 42 (by omega), h 43 (by omega), h 44 (by omega), h 45 (by omega), h 46 (by omega), h 47 (by omega)]
  unfold pcell
  rw [e]
theorem mcell_cg {l2 : Nat → Nat} (h : ∀ k, 48 ≤ k → k < 76 → l2 k = loc k) (k : Nat) : mcell cI cB cZ l2 k = mcell cI cB cZ loc k := by
  have e : mlist cI cB cZ l2 = mlist cI cB cZ loc := by
    unfold mlist
    simp only [h 49 (by omega) (by omega), h 50 (by omega) (by omega), h 51 (by omega) (by omega), h 52 (by omega) (by omega), h 53 (by omega) (by omega), h 54 (by omega) (by omega), h 55 (by omega) (by omega), h 56 (by omega) (by omega), h 57 (by omega) (by omega), h 58 (by omega) (by omega), h 59 (by omega) (by omega), h 60 (by omega) (by omega), h 61 (by omega) (by omega), h 62 (by omega) (by omega), h 63 (by omega) (by omega), h 64 (by omega) (by omega), h 65 (by omega) (by omega), h 66 (by omega) (by omega), h 67 (by omega) (by omega), h 68 (by omega) (by omega), h 69 (by omega) (by omega), h 70 (by omega) (by omega), h 71 (by omega) (by omega), h 72 (by omega) (by omega), h 73 (by omega) (by omega), h 74 (by omega) (by omega), h 75 (by omega) (by omega)]
  unfold mcell
  rw [e]
/-- what the constructors leave, the body under its own key -/
theorem start_ok {f : Nat → Int64} (hv : ∀ k, k < 48 → val k = pcell cI cN loc k) (hm : ∀ k, 48 ≤ k → k < 76 → val k = mcell cI cB cZ loc k) (h76 : val 76 = .inl (cJ, 1, .inr (.inl f))) : LW9 cI cB cZ cJ cN (loc 0) (loc 48) (loc 76) (Phi rs00) (fun k => k = 1000 ∨ (kd 77 k ∧ k ≠ 47)) (va_up loc 1000 (loc 47)) (va_up val 1000 (val 47)) := by
  obtain ⟨l2, hl2⟩ : ∃ z, z = va_up loc 1000 (loc 47) := ⟨_, rfl⟩
  obtain ⟨v2, hv2⟩ : ∃ z, z = va_up val 1000 (val 47) := ⟨_, rfl⟩
  have hle : ∀ k, k < 1000 → l2 k = loc k := fun k hk => by rw [hl2]; exact va_up_ne _ _ (by omega)
  have hl1 : l2 (1000 + 0) = l2 47 := by rw [hle 47 (by omega), hl2]; exact va_up_self _ _ _
  have hve : ∀ k, k < 1000 → v2 k = val k := fun k hk => by rw [hv2]; exact va_up_ne _ _ (by omega)
  have hp : ∀ k, k < 48 → v2 k = pcell cI cN l2 k := fun k hk => by
    rw [hve k (by omega), pcell_cg (l2 := l2) (loc := loc) (fun j hj => hle j (by omega))]
    exact hv k hk
  have hq : ∀ k, 48 ≤ k → k < 76 → v2 k = mcell cI cB cZ l2 k := fun k h1 h2 => by
    rw [hve k (by omega), mcell_cg (l2 := l2) (loc := loc) (fun j _ hj => hle j (by omega))]
    exact hm k h1 h2
  have hd : ∀ k, k < 77 → k ≠ 47 → (fun k => k = 1000 ∨ (kd 77 k ∧ k ≠ 47)) k := fun k h1 h2 => Or.inr ⟨h1, h2⟩
  have hb : v2 (1000 + 0) = pcell cI cN l2 47 := by
    rw [hv2, va_up_self, pcell_cg (l2 := l2) (loc := loc) (fun j hj => hle j (by omega))]
    exact hv 47 (by omega)
  rw [← hl2, ← hv2]
  obtain ⟨tc1, tc2⟩ := clT_ok (T := M00) rfl rfl
  have hrow : ∀ j, j ∈ RK → (fun k => k = 1000 ∨ (kd 77 k ∧ k ≠ 47)) j ∧ (fun k => k = 1000 ∨ (kd 77 k ∧ k ≠ 47)) (j + 1) ∧ l2 j = l2 j ∧ rowOK cI l2 v2 j (rs00 j).1 (rs00 j).2 ∧ (rs00 j).2 ≤ 2 * mxOf j := fun j hj => by
    have hin := RK_in j hj
    refine ⟨hd j (by omega) (by omega), hd (j + 1) (by omega) (by omega), rfl, ?_, (by decide : ∀ j ∈ RK, 16 ≤ 2 * mxOf j) j hj⟩
    have key : ∀ j ∈ RK, ∀ w : Nat → Nat, pcell cI cN w j = .inr (1, [.ref (w (j + 1)), .int (nI 0)]) ∧ pcell cI cN w (j + 1) = .inl (cI, 16, .inl (fun _ => 0)) := by
      intro j hj w
      simp only [RK, List.mem_cons, List.not_mem_nil, or_false] at hj
      rcases hj with rfl | rfl | rfl | rfl | rfl | rfl | rfl | rfl | rfl | rfl | rfl | rfl | rfl | rfl | rfl | rfl | rfl | rfl | rfl | rfl | rfl <;> exact ⟨rfl, rfl⟩
    exact ⟨fun _ => 0, (hp j (by omega)).trans (key j hj l2).1, (hp (j + 1) (by omega)).trans (key j hj l2).2, (by decide : 0 ≤ 16), (by decide : 16 ≤ 16), (by decide : 16 ≤ 640000)⟩
  refine ⟨l2, 5, 30, rs00, sh00, T0, 1, 0, 0, 0, C00, clT M00, O00, ⟨⟨⟨⟨hrow, fun z => ?_⟩, ⟨hd 5 (by omega) (by omega), rfl, hp 5 (by omega)⟩, ⟨hd 30 (by omega) (by omega), rfl, hp 30 (by omega)⟩, ⟨hd 2 (by omega) (by omega), rfl, hp 2 (by omega)⟩, Or.inl rfl⟩, ⟨by omega, fun i hi => ?_⟩, ⟨⟨hd 0 (by omega) (by omega), rfl, ?_⟩, hd 1 (by omega) (by omega), rfl, va_up (fun _ => none) (Int32.toNatClampNeg 0) (some (l2 47)), hp 1 (by omega), fun i hi => ?_⟩⟩, ⟨T0_ok.1, T0_ok.2, (fun i j _ h => nomatch h)⟩, ⟨by omega, Or.inr rfl, ⟨rfl, rfl, rfl, rfl⟩, (by decide : 0 ≤ 0 + 1), by omega⟩, ⟨⟨⟨hd 48 (by omega) (by omega), rfl, (hq 48 (by omega) (by omega)).trans (mfs00 l2).symm⟩, fun j e he => ?_⟩, OI00, tc1, tc2⟩, ⟨hd 76 (by omega) (by omega), rfl, f, (hve 76 (by omega)).trans h76⟩, rel_cl M00⟩, ⟨hle 0 (by omega), hle 48 (by omega), hle 76 (by omega)⟩, rfl⟩
  · rcases z with z | z
    · omega
    · exact absurd z.1 (by unfold kd; omega)
  · have e : i = 0 := by omega
    subst e
    exact ⟨Or.inl rfl, rfl, 0, 0, 0, -1, hb⟩
  · rw [hl1]
    exact hp 0 (by omega)
  · have e : i = 0 := by omega
    subst e
    rw [hl1]
    rfl
  · have hj : j < 27 := (List.getElem?_eq_some_iff.mp he).1
    refine ⟨hd (49 + j) (by omega) (by omega), rfl, (hq (49 + j) (by omega) (by omega)).trans ?_⟩
    rw [mar00 (loc := l2)] at he
    rw [List.getElem?_drop] at he
    unfold mcell
    rw [List.getD_eq_getElem?_getD, show 49 + j - 48 = 1 + j by omega, he]
    rfl
end KSt
