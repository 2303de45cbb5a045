set_option maxRecDepth 100000 in
theorem zs_XF {b L : Nat} {xs : Nat → Int32} {s : State} (hL : L ≤ 384) (hts : ∀ w ∈ lw_tbl, w.before #[Value.ref b] s = true) (hX : va_X b L xs s s.heap) (hbl : b < s.heap.size) (hs : ∀ c ∈ zsG, c.before #[Value.ref b] s = true) (l : Launch) (G : va_G) {c0 : ClassId} (hc0 : s.vm.findClass "[I" = some c0) (c1 c2 c3 c4 : ClassId) : ∃ eX : Nat → Nat, eX 0 = b ∧ XF (l, G, zsC c0 c1 c2 c3 c4, s.heap.size, eX, zsH L xs) s := by
  have hA : ∀ a : Nat, a < s.heap.size → ¬ (fun q : Nat => s.heap.size ≤ q) a := fun a h => Nat.not_le.mpr h
  have lF : (Cond.eq (.length (.static "EmptyLand" "RATE_FIRST" "[I")) (.int 6)).before #[Value.ref b] s = true := hs _ (by decide +kernel)
  obtain ⟨t1, e1, T1⟩ := zs_row (A := fun q : Nat => s.heap.size ≤ q) (hs (Cond.arrayOf (.static "EmptyLand" "RATE_LEAST" "[I") .int) (by decide +kernel)) (hs _ (by decide +kernel)) (zs_RATE_LEAST hs) hA
  obtain ⟨t2, e2, T2⟩ := zs_row (A := fun q : Nat => s.heap.size ≤ q) (hs (Cond.arrayOf (.static "EmptyLand" "RATE_MOST" "[I") .int) (by decide +kernel)) (hs _ (by decide +kernel)) (zs_RATE_MOST hs) hA
  obtain ⟨t3, e3, T3⟩ := zs_row (A := fun q : Nat => s.heap.size ≤ q) (hs (Cond.arrayOf (.static "EmptyLand" "RATE_FIRST" "[I") .int) (by decide +kernel)) lF (zs_RATE_FIRST hs) hA
  obtain ⟨cell, d1, d2, d3, d4, d5⟩ := zs_cell lF (hs _ (by decide +kernel)) e3 T3 hc0
  obtain ⟨adK, adV, ⟨hk, -⟩, hev⟩ := zs_str hs hA
  have hZq : ∃ t10 : Nat, ∃ v : Value, (v = .null ∨ v = .ref t10) ∧ va_Z "jdk/internal/util/Preconditions" "SIOOBE_FORMATTER" "Ljava/util/function/BiFunction;" v (fun q : Nat => s.heap.size ≤ q) s s.heap := by
    rcases va_Zqof (zs_w hts 798 (w := .laysStatic "jdk/internal/util/Preconditions" "SIOOBE_FORMATTER" "Ljava/util/function/BiFunction;") (by decide +kernel)) (zs_w hts 90 (by decide +kernel)) (hs _ (by decide +kernel)) hA with h | ⟨t, h⟩
    · exact ⟨0, _, Or.inl rfl, h⟩
    · exact ⟨t, _, Or.inr rfl, h⟩
  obtain ⟨t10, v10, o10, z10⟩ := hZq
  refine ⟨zsX b t1 t2 t3 t10 adK adV, rfl, ?_, ?_, ?_, ?_, ?_, ?_, Nat.le_refl _, rfl⟩
  · intro a ha
    have ha : a < 11 := ha
    have k0 := hk 0 (by decide)
    have k1 := hk 1 (by decide)
    have k2 := hk 2 (by decide)
    rcases (show a = 0 ∨ a = 1 ∨ a = 2 ∨ a = 3 ∨ a = 4 ∨ a = 5 ∨ a = 6 ∨ a = 7 ∨ a = 8 ∨ a = 9 ∨ a = 10 by omega) with rfl | rfl | rfl | rfl | rfl | rfl | rfl | rfl | rfl | rfl | rfl
    · refine ⟨Or.inr rfl, ?_⟩
      obtain ⟨scr, g1, g2, g3, g4, g5⟩ := hX
      exact ⟨scr, g1, g2, g3, by omega, by rw [g4], g5, hA b hbl⟩
    · exact ⟨Or.inr rfl, T1⟩
    · exact ⟨Or.inr rfl, T2⟩
    · exact ⟨Or.inr rfl, T3⟩
    · exact ⟨rfl, k0.1, 7, rfl, by decide, k0.2.2.1, k0.2.1⟩
    · exact ⟨rfl, k1.1, 8, rfl, by decide, k1.2.2.1, k1.2.1⟩
    · exact ⟨rfl, k2.1, 9, rfl, by decide, k2.2.2.1, k2.2.1⟩
    · exact ⟨Or.inl rfl, k0.2.2.2⟩
    · exact ⟨Or.inl rfl, k1.2.2.2⟩
    · exact ⟨Or.inl rfl, k2.2.2.2⟩
    · exact (rfl : 7 = 7)
  · exact ⟨cell, fFi, d1, (Array.getElem?_eq_some_iff.mp d1).1, rfl, d2, d3, d4, d5⟩
  · exact ⟨va_Zref (zs_w hts 861 (by decide +kernel)) (zs_w hts 73 (by decide +kernel)) e1 hA, va_Zref (zs_w hts 863 (by decide +kernel)) (zs_w hts 73 (by decide +kernel)) e2 hA, va_Zref (zs_w hts 117 (by decide +kernel)) (zs_w hts 73 (by decide +kernel)) e3 hA, va_Zof (zs_w hts 757 (by decide +kernel)) (zs_w hts 87 (by decide +kernel)) (va_eqi (hs _ (by decide +kernel))) hA, v10, o10, z10⟩
  · have v0 := hev 0 (by decide)
    have v1 := hev 1 (by decide)
    have v2 := hev 2 (by decide)
    exact ⟨vk_R.of (zs_w hts 668 (by decide +kernel)) v0, vk_R.of (zs_w hts 669 (by decide +kernel)) v1, vk_R.of (zs_w hts 670 (by decide +kernel)) v2, vk_R.of (zs_w hts 1196 (by decide +kernel)) (zs_eqR (hs (Cond.eq (.string "EmptyLand$Rule" 31) (.string "EmptyLandModel" 30)) (by decide +kernel)) (hs _ (by decide +kernel)) v0), vk_R.of (zs_w hts 1197 (by decide +kernel)) (zs_eqR (hs (Cond.eq (.string "EmptyLand$Rule" 33) (.string "EmptyLandModel" 32)) (by decide +kernel)) (hs _ (by decide +kernel)) v1), vk_R.of (zs_w hts 1198 (by decide +kernel)) (zs_eqR (hs (Cond.eq (.string "EmptyLand$Rule" 35) (.string "EmptyLandModel" 34)) (by decide +kernel)) (hs _ (by decide +kernel)) v2)⟩
  · exact ⟨va_AO.of (zs_w hts 115 (by decide +kernel)), va_AO.of (zs_w hts 126 (by decide +kernel)), va_AO.of (zs_w hts 239 (by decide +kernel)), va_AO.of (zs_w hts 1195 (by decide +kernel))⟩
  · refine ⟨fun q hq => ?_, va_Nw.of rfl (zs_w hts 116 (by decide +kernel))⟩
    have hq : q ∈ ([("EmptyLand$School", "EmptyLand$Thing"), ("EmptyLand$Shop", "EmptyLand$Thing"), ("EmptyLand$Doctor", "EmptyLand$Thing"), ("EmptyLand$Bus", "EmptyLand$Thing"), ("EmptyLand$Wheels", "EmptyLand$Thing"), ("EmptyLand$Bridge", "EmptyLand$Thing"), ("[I", "java/lang/Cloneable")] : List (String × String)) := hq
    simp only [List.mem_cons, List.not_mem_nil, or_false] at hq
    rcases hq with rfl | rfl | rfl | rfl | rfl | rfl | rfl
    · exact va_Nw.of rfl (zs_w hts 1741 (by decide +kernel))
    · exact va_Nw.of rfl (zs_w hts 1742 (by decide +kernel))
    · exact va_Nw.of rfl (zs_w hts 1743 (by decide +kernel))
    · exact va_Nw.of rfl (zs_w hts 1744 (by decide +kernel))
    · exact va_Nw.of rfl (zs_w hts 1745 (by decide +kernel))
    · exact va_Nw.of rfl (zs_w hts 1746 (by decide +kernel))
    · exact va_Nw.of rfl (zs_w hts 123 (by decide +kernel))
