theorem zs_sift {s s' : State} {L : List Loc} {k n : Nat} (h : s.sameButNew s' L k n) (hL : ∀ x ∈ L, s.heap.size ≤ x.base) : s.sameButNew s' [] k n := by
  obtain ⟨h1, h2, h3, h4, h5, h6⟩ := h
  refine ⟨h1, h2, h3, h4, h5, fun a c hc => ?_⟩
  obtain ⟨c', hc', hce, hsz, hout⟩ := h6 a c hc
  exact ⟨c', hc', hce, hsz, fun i _ => hout i (fun hm => absurd (Array.getElem?_eq_some_iff.mp hc).1 (Nat.not_lt.mpr (hL _ hm)))⟩
set_option maxRecDepth 100000 in
theorem whole_start {p : Program} {e : Env} {s : State} {m : MethodId} {below : List Frame} {meth : Method} {c : Code} (l : Launch) {b L : Nat} {xs : Nat → Int32} (hL : L ≤ 384) (C0 : lw_At p s m meth c b L xs) : W p l e room_1 s m #[Value.ref b] below meth c s.heap [] 0 0 (lw_Z below #[Value.ref b] s) (entryFrame m ([Value.ref b] : List Value).toArray 4) := by
  obtain ⟨hx, hb, hr, hml, hown, hts, hX, hbl, hlocks, hgv, hnm⟩ := C0
  have hs : ∀ c ∈ zsG, c.before #[Value.ref b] s = true := flat_of_before _ hgv
  have htG : ∀ w ∈ tG, w.before #[Value.ref b] s = true := fun w hw => hts w (List.mem_filter.mp hw).1
  obtain ⟨dC, dI, hKc⟩ := zs_cls htG
  obtain ⟨c0, a0, r0⟩ := zs_arrI (htG _ w_194)
  obtain ⟨c1, a1, r1⟩ := zs_arr (zs_w hts 115 (w := .arrayOver (.object "EmptyLand$Thing")) (by decide +kernel))
  obtain ⟨c2, a2, r2⟩ := zs_arr (zs_w hts 126 (w := .arrayOver (.object "EmptyLand$Rule")) (by decide +kernel))
  obtain ⟨c3, a3, r3⟩ := zs_arr (zs_w hts 239 (w := .arrayOver (.object "EmptyLand$Row")) (by decide +kernel))
  obtain ⟨c4, a4, r4⟩ := zs_arr (zs_w hts 1195 (w := .arrayOver (.object "java/lang/String")) (by decide +kernel))
  obtain ⟨eX, hX0, hF⟩ := zs_XF hL hts hX hbl hs l (dC, dI) r0 c1 c2 c3 c4
  generalize hD : ((l, (dC, dI), zsC c0 c1 c2 c3 c4, s.heap.size, eX, zsH L xs) : En) = D at hF
  have eLD : eL D = l := by rw [← hD]; rfl
  have eQD : ∀ q, eQ D q → s.heap.size ≤ q := fun q h => by rw [← hD] at h; exact h
  have hK : va_K (eG D) vwCl (eT D) s := by
    rw [← hD]
    refine ⟨hKc, fun k q hq => ?_⟩
    have hk : k < 5 := (List.getElem?_eq_some_iff.mp hq).1
    rcases (show k = 0 ∨ k = 1 ∨ k = 2 ∨ k = 3 ∨ k = 4 by omega) with rfl | rfl | rfl | rfl | rfl <;> cases hq
    · exact ⟨a0, r0⟩
    · exact ⟨a1, r1⟩
    · exact ⟨a2, r2⟩
    · exact ⟨a3, r3⟩
    · exact ⟨a4, r4⟩
  have hH : HR D (zsH L xs) s.heap := by
    rw [← hD]
    exact ⟨fun k q h => (by cases h), ⟨fun i j p q h => (by cases h), fun k q h => (by cases h)⟩, rfl, Nat.le_refl _, rfl⟩
  have hlr : Lr D [some (.ref 0), none, none, none] ((lg_sl ([.ref b] : List Value) ++ List.replicate (4 - (lg_sl ([.ref b] : List Value)).length) Slot.unset).toArray) 4 := by
    have q := lvA_Lr D [.ref 0] 4 (by decide)
    have e0 : ([.ref 0] : List Value).map (cv D) = [.ref b] := by
      show [Value.ref (ad D 0)] = [.ref b]
      rw [ad_lo D (by decide), ← hD]
      show [Value.ref (eX 0)] = [.ref b]
      rw [hX0]
    rw [e0] at q
    exact q
  rw [lg_entry_eq]
  intro T hT X
  have hE := zs_run D (xs := xs) hL p e room_1 s m #[Value.ref b] below meth c s.heap [] 0 0 600000 7302250 _ ⟨hx, hb, hml, hr, hlocks, hnm, hown, htG, hF, hK, by decide, by decide⟩ hH va_S.rf hlr (by decide) (by decide) (Nat.le_refl _) (Nat.le_refl _)
  rw [eLD] at hE
  obtain ⟨t, b1, o, b2, b3, ⟨v, h', f1, f2, -, -⟩, L', ⟨g1, g2, g3⟩, g4⟩ := hE T hT X
  refine ⟨t, b1, o, b2, b3, ?_, g1, g2, zs_sift g3 (fun x hx => eQD _ (g4 x hx))⟩
  rw [f1, f2]
  rfl
