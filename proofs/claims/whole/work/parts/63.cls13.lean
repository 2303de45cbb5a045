theorem cpy0 {α : Type} {f g : Nat → α} {n k : Nat} (hk : k < n) : va_cpy f g 0 0 n k = f k := by
  unfold va_cpy
  rw [if_pos ⟨Nat.zero_le _, by omega⟩, Nat.sub_zero, Nat.zero_add]
theorem e_cpi {D : En} {d : Nat} {M : Mt} {pc : Nat} {ls : List (Option Value)} {st : List Value} {h : AH} {nc ns : Nat} {post : Option Value → AH → Prop} {idx a b m : Nat} {f g : Nat → Int32} (hd : decode M.2.1 pc = .ok (.invokestatic idx, 3)) (hy : CY M.1.cls idx) (hdd : 0 < d) (hw : (st.map fun v => v.category).sum ≤ 8) (hc0 : h[a]? = some (.inl (0, m, .inl f))) (hc1 : h[b]? = some (.inl (0, m, .inl g))) (q3 : ¬ Int32.ofNat m < 0) (q : (Int32.ofNat m).toNatClampNeg = m) (kk : ∀ g' : Nat → Int32, (∀ i, i < m → g' i = f i) → Ev D d M (pc + 3) ls st (h.set b (.inl (0, m, .inl g'))) nc ns post) : Ev D d M pc ls (.int (Int32.ofNat m) :: .int (nI 0) :: .ref b :: .int (nI 0) :: .ref a :: st) h nc ns post := by
  have z : (nI 0).toNatClampNeg = 0 := by decide
  refine e_copyi hd hy hdd hw hc0 hc1 (by decide) (by decide) q3 (by rw [z, q]; omega) (by rw [z, q]; omega) ?_
  rw [z, q]
  exact kk _ (fun i hi => cpy0 hi)
theorem e_cpq {D : En} {d : Nat} {M : Mt} {pc : Nat} {ls : List (Option Value)} {st : List Value} {h : AH} {nc ns : Nat} {post : Option Value → AH → Prop} {idx a b m : Nat} {t : Nat} {f g : Nat → Option Nat} (hd : decode M.2.1 pc = .ok (.invokestatic idx, 3)) (hy : CY M.1.cls idx) (hdd : 0 < d) (hw : (st.map fun v => v.category).sum ≤ 8) (ht : t = 1 ∨ t = 2 ∨ t = 3 ∨ t = 4) (hc0 : h[a]? = some (.inl (t, m, .inr (.inr (.inr (.inr f)))))) (hc1 : h[b]? = some (.inl (t, m, .inr (.inr (.inr (.inr g)))))) (q3 : ¬ Int32.ofNat m < 0) (q : (Int32.ofNat m).toNatClampNeg = m) (hel : ∀ i, i < m → ∀ y, f i = some y → ASh h t y) (kk : ∀ g' : Nat → Option Nat, (∀ i, i < m → g' i = f i) → Ev D d M (pc + 3) ls st (h.set b (.inl (t, m, .inr (.inr (.inr (.inr g')))))) nc ns post) : Ev D d M pc ls (.int (Int32.ofNat m) :: .int (nI 0) :: .ref b :: .int (nI 0) :: .ref a :: st) h nc ns post := by
  have z : (nI 0).toNatClampNeg = 0 := by decide
  refine e_copyq hd hy hdd hw ht hc0 hc1 (by decide) (by decide) q3 (by rw [z, q]; omega) (by rw [z, q]; omega) (fun i hi y hy2 => hel i (by rw [q] at hi; exact hi) y (by rw [z, Nat.zero_add] at hy2; exact hy2)) ?_
  rw [z, q]
  exact kk _ (fun i hi => cpy0 hi)
theorem as_thing (k : Nat) : AS (ciK k) 1 := by
  unfold ciK
  split
  · exact ⟨_, _, _, rfl, by decide⟩
  · exact ⟨_, _, _, rfl, by decide⟩
  · exact ⟨_, _, _, rfl, by decide⟩
  · exact ⟨_, _, _, rfl, by decide⟩
  · exact ⟨_, _, _, rfl, by decide⟩
  · exact ⟨_, _, _, rfl, by decide⟩
  · exact ⟨_, _, _, rfl, by decide⟩
theorem as_rule : AS 6 2 := ⟨_, _, _, rfl, by decide⟩
theorem ThingAt.hi {h h' : AH} {b t : Nat} {N : Nat → Int32} (hb : ThingAt h b t N) (hU : ∀ x, 97 ≤ x → h'[x]? = h[x]?) : ThingAt h' b t N := ⟨hb.1, (hU _ hb.1).trans hb.2⟩
theorem RuleAt.hi {h h' : AH} {r u : Nat} {tx : List Nat} (hr : RuleAt h r u tx) (hU : ∀ x, 97 ≤ x → h'[x]? = h[x]?) : RuleAt h' r u tx := by
  obtain ⟨a1, ⟨p, f, a2⟩, ⟨b, a3⟩, ⟨c, a4, a5⟩, ⟨k, a6⟩⟩ := hr
  exact ⟨a1, ⟨p, f, (hU _ (by omega)).trans a2⟩, ⟨b, (hU _ (by omega)).trans a3⟩, ⟨c, (hU _ (by omega)).trans a4, a5⟩, ⟨k, (hU _ (by omega)).trans a6⟩⟩
theorem LandAt.same {h h' : AH} {b : Nat} {N : Nat → Int32} (hL : LandAt h b N) (hU : ∀ x, (b ≤ x ∧ x ≤ b + 10) ∨ 97 ≤ x → h'[x]? = h[x]?) : LandAt h' b N := by
  obtain ⟨hLo, ⟨f1, hr1, he1⟩, ⟨f2, hr2, he2⟩, ⟨f3, hr3, he3⟩, ⟨T4, hr4, he4⟩, ⟨f5, hr5, he5⟩, ⟨f6, hr6, he6⟩, ⟨f7, hr7, he7⟩, ⟨R8, hr8, he8⟩, ⟨f9, hr9⟩, ⟨f10, hr10⟩⟩ := hL
  have hH : ∀ x, 97 ≤ x → h'[x]? = h[x]? := fun x hx => hU x (Or.inr hx)
  refine ⟨(hU _ (by omega)).trans hLo, ⟨f1, (hU _ (by omega)).trans hr1, he1⟩, ⟨f2, (hU _ (by omega)).trans hr2, he2⟩, ⟨f3, (hU _ (by omega)).trans hr3, he3⟩, ⟨T4, (hU _ (by omega)).trans hr4, fun t ht => ?_⟩, ⟨f5, (hU _ (by omega)).trans hr5, he5⟩, ⟨f6, (hU _ (by omega)).trans hr6, he6⟩, ⟨f7, (hU _ (by omega)).trans hr7, he7⟩, ⟨R8, (hU _ (by omega)).trans hr8, fun u hu => ?_⟩, ⟨f9, (hU _ (by omega)).trans hr9⟩, ⟨f10, (hU _ (by omega)).trans hr10⟩⟩
  · obtain ⟨y, hy, hb⟩ := he4 t ht
    exact ⟨y, hy, hb.hi hH⟩
  · rcases he8 u hu with z | ⟨z, r, w, hr⟩
    · exact Or.inl z
    · exact Or.inr ⟨z, r, w, hr.hi hH⟩
/-- behind the n THINGS nothing lies in the Land's row -/
def TN (h : AH) (a n : Nat) : Prop := ∃ T : Nat → Option Nat, h[a + 4]? = some (.inl (1, 10, .inr (.inr (.inr (.inr T))))) ∧ ∀ t, n ≤ t → t < 10 → T t = none
/-- a Land whose numbers don't matter -/
def Shp (h : AH) (a : Nat) : Prop := (∃ M, h[a]? = some (.inr (4, lnF a M))) ∧ (∃ f, Row0 h (a + 1) 8 f) ∧ (∃ f, Row0 h (a + 2) 24 f) ∧ (∃ f, Row0 h (a + 3) 8 f) ∧ (∃ T : Nat → Option Nat, h[a + 4]? = some (.inl (1, 10, .inr (.inr (.inr (.inr T)))))) ∧ (∃ f, Row0 h (a + 5) 10 f) ∧ (∃ f, Row0 h (a + 6) 10 f) ∧ (∃ f, Row0 h (a + 7) 6 f) ∧ (∃ R : Nat → Option Nat, h[a + 8]? = some (.inl (2, 3, .inr (.inr (.inr (.inr R)))))) ∧ (∃ f, Row0 h (a + 9) 8 f) ∧ (∃ f, Row0 h (a + 10) 3 f)
theorem LandAt.shp {h : AH} {a : Nat} {N : Nat → Int32} (hL : LandAt h a N) : Shp h a := by
  obtain ⟨hLo, ⟨f1, hr1, he1⟩, ⟨f2, hr2, he2⟩, ⟨f3, hr3, he3⟩, ⟨T4, hr4, he4⟩, ⟨f5, hr5, he5⟩, ⟨f6, hr6, he6⟩, ⟨f7, hr7, he7⟩, ⟨R8, hr8, he8⟩, ⟨f9, hr9⟩, ⟨f10, hr10⟩⟩ := hL
  exact ⟨⟨N, hLo⟩, ⟨f1, hr1⟩, ⟨f2, hr2⟩, ⟨f3, hr3⟩, ⟨T4, hr4⟩, ⟨f5, hr5⟩, ⟨f6, hr6⟩, ⟨f7, hr7⟩, ⟨R8, hr8⟩, ⟨f9, hr9⟩, ⟨f10, hr10⟩⟩
/-- nothing has changed but the Land at a -/
def FA (a : Nat) (h h' : AH) : Prop := h'.length = h.length ∧ ∀ x, (x < a ∨ a + 10 < x) → h'[x]? = h[x]?
theorem FA.fy {a : Nat} {h h1 h2 : AH} {b : Nat} (f : FA a h h1) (x : Nat) (hx : x < a ∨ a + 10 < x) : h1[x]? = h[x]? := f.2 x hx
theorem TN.fy {a n : Nat} {h h' : AH} (hT : TN h a n) (hF : FY a h h') (hB : RB h) (ha : a + 10 < 97) : TN h' a n := by
  obtain ⟨T, t4, t5⟩ := hT
  refine ⟨T, ?_, t5⟩
  rcases hF.2 (a + 4) with e | e | ⟨⟨e3, fs, es⟩, -⟩
  · exact e.trans t4
  · omega
  · have := (hB _ fs es).1
    omega
set_option maxRecDepth 20000 in
theorem k_copy (D : En) {h : AH} {a b : Nat} {N : Nat → Int32} (hA : Shp h a) (ha : a + 10 < 97) (hB : LB h b N) (hI : IN N) (hT : TN h b (tcN N)) (hab : a + 10 < b ∨ b + 10 < a) : Sp D 1 mX4_copyFrom [.ref a, .ref b] h 0 0 none (fun h' => LB h' a N ∧ TN h' a (tcN N) ∧ FA a h h') := by
  have hb9 := hB.2.2
  have htc10 := hI.1.2.2.2.1
  obtain ⟨⟨M, hLo⟩, ⟨_, r1⟩, ⟨_, r2⟩, ⟨_, r3⟩, ⟨_, r4⟩, ⟨_, r5⟩, ⟨_, r6⟩, ⟨_, r7⟩, ⟨_, r8⟩, ⟨_, r9⟩, ⟨_, r10⟩⟩ := id hA
  obtain ⟨sLo, ⟨f1, s1, e1⟩, ⟨f2, s2, e2⟩, ⟨f3, s3, e3⟩, ⟨T4, s4, e4⟩, ⟨f5, s5, e5⟩, ⟨f6, s6, e6⟩, ⟨f7, s7, e7⟩, ⟨R8, s8, e8⟩, -, -⟩ := id hB.1
  obtain ⟨T, t4, t5⟩ := hT
  have eT := s4.symm.trans t4
  cases eT
  have hB9 := hB.2.1
  obtain ⟨h00, hh00⟩ : ∃ z, z = h := ⟨_, rfl⟩
  have hU : ∀ x, (x < a ∨ a + 10 < x) → h[x]? = h00[x]? := fun x _ => by rw [hh00]
  have hl : h.length = h00.length := by rw [hh00]
  intro post hp
  rw [← hh00] at hp sLo s1 s2 s3 s4 s5 s6 s7 s8 e4 e8
  have hel4 : ∀ h : AH, (∀ x, (x < a ∨ a + 10 < x) → h[x]? = h00[x]?) → ∀ i, i < 10 → ∀ y, T4 i = some y → ASh h 1 y := fun h hU i hi y hy => by
    by_cases q : i < tcN N
    · obtain ⟨z, hz, hb⟩ := e4 i q
      rw [hz] at hy
      cases hy
      exact Or.inl ⟨_, _, (hU _ (by have := hb.1; omega)).trans hb.2, as_thing _⟩
    · rw [t5 i (by omega) hi] at hy
      cases hy
  have hel8 : ∀ h : AH, (∀ x, (x < a ∨ a + 10 < x) → h[x]? = h00[x]?) → ∀ i, i < 3 → ∀ y, R8 i = some y → ASh h 2 y := fun h hU i hi y hy => by
    rcases e8 i hi with ⟨z, w⟩ | ⟨z, r, w, hr⟩
    · rw [w] at hy; cases hy
    · rw [w] at hy
      cases hy
      obtain ⟨a1, ⟨p, f, a2⟩, -⟩ := hr
      exact Or.inl ⟨_, _, (hU _ (by omega)).trans a2, as_rule⟩
  clear hh00
  show Ev D 1 mX4_copyFrom 0 [some (.ref a), some (.ref b)] [] h 0 0 post
  refine e_aload_n dX4_copyFrom_0 rfl ?_
  refine e_aload_n dX4_copyFrom_1 rfl ?_
  refine e_get dX4_copyFrom_2 fl_X4_9_4 ((hU b (by omega)).trans sLo) rfl ?_
  refine e_put dX4_copyFrom_5 fl_X4_9_4 ft_4 (fun q hq => Or.inl (by cases hq; rfl)) hLo (by show _ < 15; decide) rfl rfl ?_
  have hB9 : RB (h.set (a) (.inr (4, [.int (N 0), .int (M 6), .int (M 1), .int (M 2), .int (opB M), .ref (a + 1), .ref (a + 2), .ref (a + 3), .ref (a + 4), .ref (a + 5), .ref (a + 6), .ref (a + 7), .ref (a + 8), .ref (a + 9), .ref (a + 10)]))) := hB9.set (by omega) (fun fs e => by cases e)
  have hU9 : ∀ x, (x < a ∨ a + 10 < x) → (h.set (a) (.inr (4, [.int (N 0), .int (M 6), .int (M 1), .int (M 2), .int (opB M), .ref (a + 1), .ref (a + 2), .ref (a + 3), .ref (a + 4), .ref (a + 5), .ref (a + 6), .ref (a + 7), .ref (a + 8), .ref (a + 9), .ref (a + 10)])))[x]? = h00[x]? := fun x hx => getset (hU x hx) (by omega)
  have hl9 : (h.set (a) (.inr (4, [.int (N 0), .int (M 6), .int (M 1), .int (M 2), .int (opB M), .ref (a + 1), .ref (a + 2), .ref (a + 3), .ref (a + 4), .ref (a + 5), .ref (a + 6), .ref (a + 7), .ref (a + 8), .ref (a + 9), .ref (a + 10)]))).length = h00.length := List.length_set.trans hl
  have hLon := getself (c := .inr (4, [.int (N 0), .int (M 6), .int (M 1), .int (M 2), .int (opB M), .ref (a + 1), .ref (a + 2), .ref (a + 3), .ref (a + 4), .ref (a + 5), .ref (a + 6), .ref (a + 7), .ref (a + 8), .ref (a + 9), .ref (a + 10)])) hLo
  have r1n := getset (b := a) (c := .inr (4, [.int (N 0), .int (M 6), .int (M 1), .int (M 2), .int (opB M), .ref (a + 1), .ref (a + 2), .ref (a + 3), .ref (a + 4), .ref (a + 5), .ref (a + 6), .ref (a + 7), .ref (a + 8), .ref (a + 9), .ref (a + 10)])) r1 (by omega)
  have r2n := getset (b := a) (c := .inr (4, [.int (N 0), .int (M 6), .int (M 1), .int (M 2), .int (opB M), .ref (a + 1), .ref (a + 2), .ref (a + 3), .ref (a + 4), .ref (a + 5), .ref (a + 6), .ref (a + 7), .ref (a + 8), .ref (a + 9), .ref (a + 10)])) r2 (by omega)
  have r3n := getset (b := a) (c := .inr (4, [.int (N 0), .int (M 6), .int (M 1), .int (M 2), .int (opB M), .ref (a + 1), .ref (a + 2), .ref (a + 3), .ref (a + 4), .ref (a + 5), .ref (a + 6), .ref (a + 7), .ref (a + 8), .ref (a + 9), .ref (a + 10)])) r3 (by omega)
  have r4n := getset (b := a) (c := .inr (4, [.int (N 0), .int (M 6), .int (M 1), .int (M 2), .int (opB M), .ref (a + 1), .ref (a + 2), .ref (a + 3), .ref (a + 4), .ref (a + 5), .ref (a + 6), .ref (a + 7), .ref (a + 8), .ref (a + 9), .ref (a + 10)])) r4 (by omega)
  have r5n := getset (b := a) (c := .inr (4, [.int (N 0), .int (M 6), .int (M 1), .int (M 2), .int (opB M), .ref (a + 1), .ref (a + 2), .ref (a + 3), .ref (a + 4), .ref (a + 5), .ref (a + 6), .ref (a + 7), .ref (a + 8), .ref (a + 9), .ref (a + 10)])) r5 (by omega)
  have r6n := getset (b := a) (c := .inr (4, [.int (N 0), .int (M 6), .int (M 1), .int (M 2), .int (opB M), .ref (a + 1), .ref (a + 2), .ref (a + 3), .ref (a + 4), .ref (a + 5), .ref (a + 6), .ref (a + 7), .ref (a + 8), .ref (a + 9), .ref (a + 10)])) r6 (by omega)
  have r7n := getset (b := a) (c := .inr (4, [.int (N 0), .int (M 6), .int (M 1), .int (M 2), .int (opB M), .ref (a + 1), .ref (a + 2), .ref (a + 3), .ref (a + 4), .ref (a + 5), .ref (a + 6), .ref (a + 7), .ref (a + 8), .ref (a + 9), .ref (a + 10)])) r7 (by omega)
  have r8n := getset (b := a) (c := .inr (4, [.int (N 0), .int (M 6), .int (M 1), .int (M 2), .int (opB M), .ref (a + 1), .ref (a + 2), .ref (a + 3), .ref (a + 4), .ref (a + 5), .ref (a + 6), .ref (a + 7), .ref (a + 8), .ref (a + 9), .ref (a + 10)])) r8 (by omega)
  have r9n := getset (b := a) (c := .inr (4, [.int (N 0), .int (M 6), .int (M 1), .int (M 2), .int (opB M), .ref (a + 1), .ref (a + 2), .ref (a + 3), .ref (a + 4), .ref (a + 5), .ref (a + 6), .ref (a + 7), .ref (a + 8), .ref (a + 9), .ref (a + 10)])) r9 (by omega)
  have r10n := getset (b := a) (c := .inr (4, [.int (N 0), .int (M 6), .int (M 1), .int (M 2), .int (opB M), .ref (a + 1), .ref (a + 2), .ref (a + 3), .ref (a + 4), .ref (a + 5), .ref (a + 6), .ref (a + 7), .ref (a + 8), .ref (a + 9), .ref (a + 10)])) r10 (by omega)
  change Ev D 1 mX4_copyFrom 8 [some (.ref a), some (.ref b)] [] (h.set (a) (.inr (4, [.int (N 0), .int (M 6), .int (M 1), .int (M 2), .int (opB M), .ref (a + 1), .ref (a + 2), .ref (a + 3), .ref (a + 4), .ref (a + 5), .ref (a + 6), .ref (a + 7), .ref (a + 8), .ref (a + 9), .ref (a + 10)]))) 0 0 post
  obtain ⟨h, hh9⟩ : ∃ z, z = h.set (a) (.inr (4, [.int (N 0), .int (M 6), .int (M 1), .int (M 2), .int (opB M), .ref (a + 1), .ref (a + 2), .ref (a + 3), .ref (a + 4), .ref (a + 5), .ref (a + 6), .ref (a + 7), .ref (a + 8), .ref (a + 9), .ref (a + 10)])) := ⟨_, rfl⟩
  rw [← hh9] at hB9 hU9 hl9 hLon r1n r2n r3n r4n r5n r6n r7n r8n r9n r10n ⊢
  clear hh9
  have hU := hU9
  have hl := hl9
  have hLo := hLon
  have r1 := r1n
  have r2 := r2n
  have r3 := r3n
  have r4 := r4n
  have r5 := r5n
  have r6 := r6n
  have r7 := r7n
  have r8 := r8n
  have r9 := r9n
  have r10 := r10n
  refine e_aload_n dX4_copyFrom_8 rfl ?_
  refine e_aload_n dX4_copyFrom_9 rfl ?_
  refine e_get dX4_copyFrom_10 fl_X4_15_4 ((hU b (by omega)).trans sLo) rfl ?_
  refine e_put dX4_copyFrom_13 fl_X4_15_4 ft_4 (fun q hq => Or.inl (by cases hq; rfl)) hLo (by show _ < 15; decide) rfl rfl ?_
  have hB9 : RB (h.set (a) (.inr (4, [.int (N 0), .int (N 6), .int (M 1), .int (M 2), .int (opB M), .ref (a + 1), .ref (a + 2), .ref (a + 3), .ref (a + 4), .ref (a + 5), .ref (a + 6), .ref (a + 7), .ref (a + 8), .ref (a + 9), .ref (a + 10)]))) := hB9.set (by omega) (fun fs e => by cases e)
  have hU9 : ∀ x, (x < a ∨ a + 10 < x) → (h.set (a) (.inr (4, [.int (N 0), .int (N 6), .int (M 1), .int (M 2), .int (opB M), .ref (a + 1), .ref (a + 2), .ref (a + 3), .ref (a + 4), .ref (a + 5), .ref (a + 6), .ref (a + 7), .ref (a + 8), .ref (a + 9), .ref (a + 10)])))[x]? = h00[x]? := fun x hx => getset (hU x hx) (by omega)
  have hl9 : (h.set (a) (.inr (4, [.int (N 0), .int (N 6), .int (M 1), .int (M 2), .int (opB M), .ref (a + 1), .ref (a + 2), .ref (a + 3), .ref (a + 4), .ref (a + 5), .ref (a + 6), .ref (a + 7), .ref (a + 8), .ref (a + 9), .ref (a + 10)]))).length = h00.length := List.length_set.trans hl
  have hLon := getself (c := .inr (4, [.int (N 0), .int (N 6), .int (M 1), .int (M 2), .int (opB M), .ref (a + 1), .ref (a + 2), .ref (a + 3), .ref (a + 4), .ref (a + 5), .ref (a + 6), .ref (a + 7), .ref (a + 8), .ref (a + 9), .ref (a + 10)])) hLo
  have r1n := getset (b := a) (c := .inr (4, [.int (N 0), .int (N 6), .int (M 1), .int (M 2), .int (opB M), .ref (a + 1), .ref (a + 2), .ref (a + 3), .ref (a + 4), .ref (a + 5), .ref (a + 6), .ref (a + 7), .ref (a + 8), .ref (a + 9), .ref (a + 10)])) r1 (by omega)
  have r2n := getset (b := a) (c := .inr (4, [.int (N 0), .int (N 6), .int (M 1), .int (M 2), .int (opB M), .ref (a + 1), .ref (a + 2), .ref (a + 3), .ref (a + 4), .ref (a + 5), .ref (a + 6), .ref (a + 7), .ref (a + 8), .ref (a + 9), .ref (a + 10)])) r2 (by omega)
  have r3n := getset (b := a) (c := .inr (4, [.int (N 0), .int (N 6), .int (M 1), .int (M 2), .int (opB M), .ref (a + 1), .ref (a + 2), .ref (a + 3), .ref (a + 4), .ref (a + 5), .ref (a + 6), .ref (a + 7), .ref (a + 8), .ref (a + 9), .ref (a + 10)])) r3 (by omega)
  have r4n := getset (b := a) (c := .inr (4, [.int (N 0), .int (N 6), .int (M 1), .int (M 2), .int (opB M), .ref (a + 1), .ref (a + 2), .ref (a + 3), .ref (a + 4), .ref (a + 5), .ref (a + 6), .ref (a + 7), .ref (a + 8), .ref (a + 9), .ref (a + 10)])) r4 (by omega)
  have r5n := getset (b := a) (c := .inr (4, [.int (N 0), .int (N 6), .int (M 1), .int (M 2), .int (opB M), .ref (a + 1), .ref (a + 2), .ref (a + 3), .ref (a + 4), .ref (a + 5), .ref (a + 6), .ref (a + 7), .ref (a + 8), .ref (a + 9), .ref (a + 10)])) r5 (by omega)
  have r6n := getset (b := a) (c := .inr (4, [.int (N 0), .int (N 6), .int (M 1), .int (M 2), .int (opB M), .ref (a + 1), .ref (a + 2), .ref (a + 3), .ref (a + 4), .ref (a + 5), .ref (a + 6), .ref (a + 7), .ref (a + 8), .ref (a + 9), .ref (a + 10)])) r6 (by omega)
  have r7n := getset (b := a) (c := .inr (4, [.int (N 0), .int (N 6), .int (M 1), .int (M 2), .int (opB M), .ref (a + 1), .ref (a + 2), .ref (a + 3), .ref (a + 4), .ref (a + 5), .ref (a + 6), .ref (a + 7), .ref (a + 8), .ref (a + 9), .ref (a + 10)])) r7 (by omega)
  have r8n := getset (b := a) (c := .inr (4, [.int (N 0), .int (N 6), .int (M 1), .int (M 2), .int (opB M), .ref (a + 1), .ref (a + 2), .ref (a + 3), .ref (a + 4), .ref (a + 5), .ref (a + 6), .ref (a + 7), .ref (a + 8), .ref (a + 9), .ref (a + 10)])) r8 (by omega)
  have r9n := getset (b := a) (c := .inr (4, [.int (N 0), .int (N 6), .int (M 1), .int (M 2), .int (opB M), .ref (a + 1), .ref (a + 2), .ref (a + 3), .ref (a + 4), .ref (a + 5), .ref (a + 6), .ref (a + 7), .ref (a + 8), .ref (a + 9), .ref (a + 10)])) r9 (by omega)
  have r10n := getset (b := a) (c := .inr (4, [.int (N 0), .int (N 6), .int (M 1), .int (M 2), .int (opB M), .ref (a + 1), .ref (a + 2), .ref (a + 3), .ref (a + 4), .ref (a + 5), .ref (a + 6), .ref (a + 7), .ref (a + 8), .ref (a + 9), .ref (a + 10)])) r10 (by omega)
  change Ev D 1 mX4_copyFrom 16 [some (.ref a), some (.ref b)] [] (h.set (a) (.inr (4, [.int (N 0), .int (N 6), .int (M 1), .int (M 2), .int (opB M), .ref (a + 1), .ref (a + 2), .ref (a + 3), .ref (a + 4), .ref (a + 5), .ref (a + 6), .ref (a + 7), .ref (a + 8), .ref (a + 9), .ref (a + 10)]))) 0 0 post
  obtain ⟨h, hh9⟩ : ∃ z, z = h.set (a) (.inr (4, [.int (N 0), .int (N 6), .int (M 1), .int (M 2), .int (opB M), .ref (a + 1), .ref (a + 2), .ref (a + 3), .ref (a + 4), .ref (a + 5), .ref (a + 6), .ref (a + 7), .ref (a + 8), .ref (a + 9), .ref (a + 10)])) := ⟨_, rfl⟩
  rw [← hh9] at hB9 hU9 hl9 hLon r1n r2n r3n r4n r5n r6n r7n r8n r9n r10n ⊢
  clear hh9
  have hU := hU9
  have hl := hl9
  have hLo := hLon
  have r1 := r1n
  have r2 := r2n
  have r3 := r3n
  have r4 := r4n
  have r5 := r5n
  have r6 := r6n
  have r7 := r7n
  have r8 := r8n
  have r9 := r9n
  have r10 := r10n
  refine e_aload_n dX4_copyFrom_16 rfl ?_
  refine e_aload_n dX4_copyFrom_17 rfl ?_
  refine e_get dX4_copyFrom_18 fl_X4_18_4 ((hU b (by omega)).trans sLo) rfl ?_
  refine e_put dX4_copyFrom_21 fl_X4_18_4 ft_4 (fun q hq => Or.inl (by cases hq; rfl)) hLo (by show _ < 15; decide) rfl rfl ?_
  have hB9 : RB (h.set (a) (.inr (4, [.int (N 0), .int (N 6), .int (N 1), .int (M 2), .int (opB M), .ref (a + 1), .ref (a + 2), .ref (a + 3), .ref (a + 4), .ref (a + 5), .ref (a + 6), .ref (a + 7), .ref (a + 8), .ref (a + 9), .ref (a + 10)]))) := hB9.set (by omega) (fun fs e => by cases e)
  have hU9 : ∀ x, (x < a ∨ a + 10 < x) → (h.set (a) (.inr (4, [.int (N 0), .int (N 6), .int (N 1), .int (M 2), .int (opB M), .ref (a + 1), .ref (a + 2), .ref (a + 3), .ref (a + 4), .ref (a + 5), .ref (a + 6), .ref (a + 7), .ref (a + 8), .ref (a + 9), .ref (a + 10)])))[x]? = h00[x]? := fun x hx => getset (hU x hx) (by omega)
  have hl9 : (h.set (a) (.inr (4, [.int (N 0), .int (N 6), .int (N 1), .int (M 2), .int (opB M), .ref (a + 1), .ref (a + 2), .ref (a + 3), .ref (a + 4), .ref (a + 5), .ref (a + 6), .ref (a + 7), .ref (a + 8), .ref (a + 9), .ref (a + 10)]))).length = h00.length := List.length_set.trans hl
  have hLon := getself (c := .inr (4, [.int (N 0), .int (N 6), .int (N 1), .int (M 2), .int (opB M), .ref (a + 1), .ref (a + 2), .ref (a + 3), .ref (a + 4), .ref (a + 5), .ref (a + 6), .ref (a + 7), .ref (a + 8), .ref (a + 9), .ref (a + 10)])) hLo
  have r1n := getset (b := a) (c := .inr (4, [.int (N 0), .int (N 6), .int (N 1), .int (M 2), .int (opB M), .ref (a + 1), .ref (a + 2), .ref (a + 3), .ref (a + 4), .ref (a + 5), .ref (a + 6), .ref (a + 7), .ref (a + 8), .ref (a + 9), .ref (a + 10)])) r1 (by omega)
  have r2n := getset (b := a) (c := .inr (4, [.int (N 0), .int (N 6), .int (N 1), .int (M 2), .int (opB M), .ref (a + 1), .ref (a + 2), .ref (a + 3), .ref (a + 4), .ref (a + 5), .ref (a + 6), .ref (a + 7), .ref (a + 8), .ref (a + 9), .ref (a + 10)])) r2 (by omega)
  have r3n := getset (b := a) (c := .inr (4, [.int (N 0), .int (N 6), .int (N 1), .int (M 2), .int (opB M), .ref (a + 1), .ref (a + 2), .ref (a + 3), .ref (a + 4), .ref (a + 5), .ref (a + 6), .ref (a + 7), .ref (a + 8), .ref (a + 9), .ref (a + 10)])) r3 (by omega)
  have r4n := getset (b := a) (c := .inr (4, [.int (N 0), .int (N 6), .int (N 1), .int (M 2), .int (opB M), .ref (a + 1), .ref (a + 2), .ref (a + 3), .ref (a + 4), .ref (a + 5), .ref (a + 6), .ref (a + 7), .ref (a + 8), .ref (a + 9), .ref (a + 10)])) r4 (by omega)
  have r5n := getset (b := a) (c := .inr (4, [.int (N 0), .int (N 6), .int (N 1), .int (M 2), .int (opB M), .ref (a + 1), .ref (a + 2), .ref (a + 3), .ref (a + 4), .ref (a + 5), .ref (a + 6), .ref (a + 7), .ref (a + 8), .ref (a + 9), .ref (a + 10)])) r5 (by omega)
  have r6n := getset (b := a) (c := .inr (4, [.int (N 0), .int (N 6), .int (N 1), .int (M 2), .int (opB M), .ref (a + 1), .ref (a + 2), .ref (a + 3), .ref (a + 4), .ref (a + 5), .ref (a + 6), .ref (a + 7), .ref (a + 8), .ref (a + 9), .ref (a + 10)])) r6 (by omega)
  have r7n := getset (b := a) (c := .inr (4, [.int (N 0), .int (N 6), .int (N 1), .int (M 2), .int (opB M), .ref (a + 1), .ref (a + 2), .ref (a + 3), .ref (a + 4), .ref (a + 5), .ref (a + 6), .ref (a + 7), .ref (a + 8), .ref (a + 9), .ref (a + 10)])) r7 (by omega)
  have r8n := getset (b := a) (c := .inr (4, [.int (N 0), .int (N 6), .int (N 1), .int (M 2), .int (opB M), .ref (a + 1), .ref (a + 2), .ref (a + 3), .ref (a + 4), .ref (a + 5), .ref (a + 6), .ref (a + 7), .ref (a + 8), .ref (a + 9), .ref (a + 10)])) r8 (by omega)
  have r9n := getset (b := a) (c := .inr (4, [.int (N 0), .int (N 6), .int (N 1), .int (M 2), .int (opB M), .ref (a + 1), .ref (a + 2), .ref (a + 3), .ref (a + 4), .ref (a + 5), .ref (a + 6), .ref (a + 7), .ref (a + 8), .ref (a + 9), .ref (a + 10)])) r9 (by omega)
  have r10n := getset (b := a) (c := .inr (4, [.int (N 0), .int (N 6), .int (N 1), .int (M 2), .int (opB M), .ref (a + 1), .ref (a + 2), .ref (a + 3), .ref (a + 4), .ref (a + 5), .ref (a + 6), .ref (a + 7), .ref (a + 8), .ref (a + 9), .ref (a + 10)])) r10 (by omega)
  change Ev D 1 mX4_copyFrom 24 [some (.ref a), some (.ref b)] [] (h.set (a) (.inr (4, [.int (N 0), .int (N 6), .int (N 1), .int (M 2), .int (opB M), .ref (a + 1), .ref (a + 2), .ref (a + 3), .ref (a + 4), .ref (a + 5), .ref (a + 6), .ref (a + 7), .ref (a + 8), .ref (a + 9), .ref (a + 10)]))) 0 0 post
  obtain ⟨h, hh9⟩ : ∃ z, z = h.set (a) (.inr (4, [.int (N 0), .int (N 6), .int (N 1), .int (M 2), .int (opB M), .ref (a + 1), .ref (a + 2), .ref (a + 3), .ref (a + 4), .ref (a + 5), .ref (a + 6), .ref (a + 7), .ref (a + 8), .ref (a + 9), .ref (a + 10)])) := ⟨_, rfl⟩
  rw [← hh9] at hB9 hU9 hl9 hLon r1n r2n r3n r4n r5n r6n r7n r8n r9n r10n ⊢
  clear hh9
  have hU := hU9
  have hl := hl9
  have hLo := hLon
  have r1 := r1n
  have r2 := r2n
  have r3 := r3n
  have r4 := r4n
  have r5 := r5n
  have r6 := r6n
  have r7 := r7n
  have r8 := r8n
  have r9 := r9n
  have r10 := r10n
  refine e_aload_n dX4_copyFrom_24 rfl ?_
  refine e_aload_n dX4_copyFrom_25 rfl ?_
  refine e_get dX4_copyFrom_26 fl_X4_21_4 ((hU b (by omega)).trans sLo) rfl ?_
  refine e_put dX4_copyFrom_29 fl_X4_21_4 ft_4 (fun q hq => Or.inl (by cases hq; rfl)) hLo (by show _ < 15; decide) rfl rfl ?_
  have hB9 : RB (h.set (a) (.inr (4, [.int (N 0), .int (N 6), .int (N 1), .int (N 2), .int (opB M), .ref (a + 1), .ref (a + 2), .ref (a + 3), .ref (a + 4), .ref (a + 5), .ref (a + 6), .ref (a + 7), .ref (a + 8), .ref (a + 9), .ref (a + 10)]))) := hB9.set (by omega) (fun fs e => by cases e)
  have hU9 : ∀ x, (x < a ∨ a + 10 < x) → (h.set (a) (.inr (4, [.int (N 0), .int (N 6), .int (N 1), .int (N 2), .int (opB M), .ref (a + 1), .ref (a + 2), .ref (a + 3), .ref (a + 4), .ref (a + 5), .ref (a + 6), .ref (a + 7), .ref (a + 8), .ref (a + 9), .ref (a + 10)])))[x]? = h00[x]? := fun x hx => getset (hU x hx) (by omega)
  have hl9 : (h.set (a) (.inr (4, [.int (N 0), .int (N 6), .int (N 1), .int (N 2), .int (opB M), .ref (a + 1), .ref (a + 2), .ref (a + 3), .ref (a + 4), .ref (a + 5), .ref (a + 6), .ref (a + 7), .ref (a + 8), .ref (a + 9), .ref (a + 10)]))).length = h00.length := List.length_set.trans hl
  have hLon := getself (c := .inr (4, [.int (N 0), .int (N 6), .int (N 1), .int (N 2), .int (opB M), .ref (a + 1), .ref (a + 2), .ref (a + 3), .ref (a + 4), .ref (a + 5), .ref (a + 6), .ref (a + 7), .ref (a + 8), .ref (a + 9), .ref (a + 10)])) hLo
  have r1n := getset (b := a) (c := .inr (4, [.int (N 0), .int (N 6), .int (N 1), .int (N 2), .int (opB M), .ref (a + 1), .ref (a + 2), .ref (a + 3), .ref (a + 4), .ref (a + 5), .ref (a + 6), .ref (a + 7), .ref (a + 8), .ref (a + 9), .ref (a + 10)])) r1 (by omega)
  have r2n := getset (b := a) (c := .inr (4, [.int (N 0), .int (N 6), .int (N 1), .int (N 2), .int (opB M), .ref (a + 1), .ref (a + 2), .ref (a + 3), .ref (a + 4), .ref (a + 5), .ref (a + 6), .ref (a + 7), .ref (a + 8), .ref (a + 9), .ref (a + 10)])) r2 (by omega)
  have r3n := getset (b := a) (c := .inr (4, [.int (N 0), .int (N 6), .int (N 1), .int (N 2), .int (opB M), .ref (a + 1), .ref (a + 2), .ref (a + 3), .ref (a + 4), .ref (a + 5), .ref (a + 6), .ref (a + 7), .ref (a + 8), .ref (a + 9), .ref (a + 10)])) r3 (by omega)
  have r4n := getset (b := a) (c := .inr (4, [.int (N 0), .int (N 6), .int (N 1), .int (N 2), .int (opB M), .ref (a + 1), .ref (a + 2), .ref (a + 3), .ref (a + 4), .ref (a + 5), .ref (a + 6), .ref (a + 7), .ref (a + 8), .ref (a + 9), .ref (a + 10)])) r4 (by omega)
  have r5n := getset (b := a) (c := .inr (4, [.int (N 0), .int (N 6), .int (N 1), .int (N 2), .int (opB M), .ref (a + 1), .ref (a + 2), .ref (a + 3), .ref (a + 4), .ref (a + 5), .ref (a + 6), .ref (a + 7), .ref (a + 8), .ref (a + 9), .ref (a + 10)])) r5 (by omega)
  have r6n := getset (b := a) (c := .inr (4, [.int (N 0), .int (N 6), .int (N 1), .int (N 2), .int (opB M), .ref (a + 1), .ref (a + 2), .ref (a + 3), .ref (a + 4), .ref (a + 5), .ref (a + 6), .ref (a + 7), .ref (a + 8), .ref (a + 9), .ref (a + 10)])) r6 (by omega)
  have r7n := getset (b := a) (c := .inr (4, [.int (N 0), .int (N 6), .int (N 1), .int (N 2), .int (opB M), .ref (a + 1), .ref (a + 2), .ref (a + 3), .ref (a + 4), .ref (a + 5), .ref (a + 6), .ref (a + 7), .ref (a + 8), .ref (a + 9), .ref (a + 10)])) r7 (by omega)
  have r8n := getset (b := a) (c := .inr (4, [.int (N 0), .int (N 6), .int (N 1), .int (N 2), .int (opB M), .ref (a + 1), .ref (a + 2), .ref (a + 3), .ref (a + 4), .ref (a + 5), .ref (a + 6), .ref (a + 7), .ref (a + 8), .ref (a + 9), .ref (a + 10)])) r8 (by omega)
  have r9n := getset (b := a) (c := .inr (4, [.int (N 0), .int (N 6), .int (N 1), .int (N 2), .int (opB M), .ref (a + 1), .ref (a + 2), .ref (a + 3), .ref (a + 4), .ref (a + 5), .ref (a + 6), .ref (a + 7), .ref (a + 8), .ref (a + 9), .ref (a + 10)])) r9 (by omega)
  have r10n := getset (b := a) (c := .inr (4, [.int (N 0), .int (N 6), .int (N 1), .int (N 2), .int (opB M), .ref (a + 1), .ref (a + 2), .ref (a + 3), .ref (a + 4), .ref (a + 5), .ref (a + 6), .ref (a + 7), .ref (a + 8), .ref (a + 9), .ref (a + 10)])) r10 (by omega)
  change Ev D 1 mX4_copyFrom 32 [some (.ref a), some (.ref b)] [] (h.set (a) (.inr (4, [.int (N 0), .int (N 6), .int (N 1), .int (N 2), .int (opB M), .ref (a + 1), .ref (a + 2), .ref (a + 3), .ref (a + 4), .ref (a + 5), .ref (a + 6), .ref (a + 7), .ref (a + 8), .ref (a + 9), .ref (a + 10)]))) 0 0 post
  obtain ⟨h, hh9⟩ : ∃ z, z = h.set (a) (.inr (4, [.int (N 0), .int (N 6), .int (N 1), .int (N 2), .int (opB M), .ref (a + 1), .ref (a + 2), .ref (a + 3), .ref (a + 4), .ref (a + 5), .ref (a + 6), .ref (a + 7), .ref (a + 8), .ref (a + 9), .ref (a + 10)])) := ⟨_, rfl⟩
  rw [← hh9] at hB9 hU9 hl9 hLon r1n r2n r3n r4n r5n r6n r7n r8n r9n r10n ⊢
  clear hh9
  have hU := hU9
  have hl := hl9
  have hLo := hLon
  have r1 := r1n
  have r2 := r2n
  have r3 := r3n
  have r4 := r4n
  have r5 := r5n
  have r6 := r6n
  have r7 := r7n
  have r8 := r8n
  have r9 := r9n
  have r10 := r10n
  refine e_aload_n dX4_copyFrom_32 rfl ?_
  refine e_aload_n dX4_copyFrom_33 rfl ?_
  refine e_get dX4_copyFrom_34 fl_X4_24_4 ((hU b (by omega)).trans sLo) rfl ?_
  refine e_put dX4_copyFrom_37 fl_X4_24_4 ft_4 (fun q hq => Or.inl (by cases hq; rfl)) hLo (by show _ < 15; decide) rfl rfl ?_
  have hB9 : RB (h.set (a) (.inr (4, [.int (N 0), .int (N 6), .int (N 1), .int (N 2), .int (opB N), .ref (a + 1), .ref (a + 2), .ref (a + 3), .ref (a + 4), .ref (a + 5), .ref (a + 6), .ref (a + 7), .ref (a + 8), .ref (a + 9), .ref (a + 10)]))) := hB9.set (by omega) (fun fs e => by cases e)
  have hU9 : ∀ x, (x < a ∨ a + 10 < x) → (h.set (a) (.inr (4, [.int (N 0), .int (N 6), .int (N 1), .int (N 2), .int (opB N), .ref (a + 1), .ref (a + 2), .ref (a + 3), .ref (a + 4), .ref (a + 5), .ref (a + 6), .ref (a + 7), .ref (a + 8), .ref (a + 9), .ref (a + 10)])))[x]? = h00[x]? := fun x hx => getset (hU x hx) (by omega)
  have hl9 : (h.set (a) (.inr (4, [.int (N 0), .int (N 6), .int (N 1), .int (N 2), .int (opB N), .ref (a + 1), .ref (a + 2), .ref (a + 3), .ref (a + 4), .ref (a + 5), .ref (a + 6), .ref (a + 7), .ref (a + 8), .ref (a + 9), .ref (a + 10)]))).length = h00.length := List.length_set.trans hl
  have hLon := getself (c := .inr (4, [.int (N 0), .int (N 6), .int (N 1), .int (N 2), .int (opB N), .ref (a + 1), .ref (a + 2), .ref (a + 3), .ref (a + 4), .ref (a + 5), .ref (a + 6), .ref (a + 7), .ref (a + 8), .ref (a + 9), .ref (a + 10)])) hLo
  have r1n := getset (b := a) (c := .inr (4, [.int (N 0), .int (N 6), .int (N 1), .int (N 2), .int (opB N), .ref (a + 1), .ref (a + 2), .ref (a + 3), .ref (a + 4), .ref (a + 5), .ref (a + 6), .ref (a + 7), .ref (a + 8), .ref (a + 9), .ref (a + 10)])) r1 (by omega)
  have r2n := getset (b := a) (c := .inr (4, [.int (N 0), .int (N 6), .int (N 1), .int (N 2), .int (opB N), .ref (a + 1), .ref (a + 2), .ref (a + 3), .ref (a + 4), .ref (a + 5), .ref (a + 6), .ref (a + 7), .ref (a + 8), .ref (a + 9), .ref (a + 10)])) r2 (by omega)
  have r3n := getset (b := a) (c := .inr (4, [.int (N 0), .int (N 6), .int (N 1), .int (N 2), .int (opB N), .ref (a + 1), .ref (a + 2), .ref (a + 3), .ref (a + 4), .ref (a + 5), .ref (a + 6), .ref (a + 7), .ref (a + 8), .ref (a + 9), .ref (a + 10)])) r3 (by omega)
  have r4n := getset (b := a) (c := .inr (4, [.int (N 0), .int (N 6), .int (N 1), .int (N 2), .int (opB N), .ref (a + 1), .ref (a + 2), .ref (a + 3), .ref (a + 4), .ref (a + 5), .ref (a + 6), .ref (a + 7), .ref (a + 8), .ref (a + 9), .ref (a + 10)])) r4 (by omega)
  have r5n := getset (b := a) (c := .inr (4, [.int (N 0), .int (N 6), .int (N 1), .int (N 2), .int (opB N), .ref (a + 1), .ref (a + 2), .ref (a + 3), .ref (a + 4), .ref (a + 5), .ref (a + 6), .ref (a + 7), .ref (a + 8), .ref (a + 9), .ref (a + 10)])) r5 (by omega)
  have r6n := getset (b := a) (c := .inr (4, [.int (N 0), .int (N 6), .int (N 1), .int (N 2), .int (opB N), .ref (a + 1), .ref (a + 2), .ref (a + 3), .ref (a + 4), .ref (a + 5), .ref (a + 6), .ref (a + 7), .ref (a + 8), .ref (a + 9), .ref (a + 10)])) r6 (by omega)
  have r7n := getset (b := a) (c := .inr (4, [.int (N 0), .int (N 6), .int (N 1), .int (N 2), .int (opB N), .ref (a + 1), .ref (a + 2), .ref (a + 3), .ref (a + 4), .ref (a + 5), .ref (a + 6), .ref (a + 7), .ref (a + 8), .ref (a + 9), .ref (a + 10)])) r7 (by omega)
  have r8n := getset (b := a) (c := .inr (4, [.int (N 0), .int (N 6), .int (N 1), .int (N 2), .int (opB N), .ref (a + 1), .ref (a + 2), .ref (a + 3), .ref (a + 4), .ref (a + 5), .ref (a + 6), .ref (a + 7), .ref (a + 8), .ref (a + 9), .ref (a + 10)])) r8 (by omega)
  have r9n := getset (b := a) (c := .inr (4, [.int (N 0), .int (N 6), .int (N 1), .int (N 2), .int (opB N), .ref (a + 1), .ref (a + 2), .ref (a + 3), .ref (a + 4), .ref (a + 5), .ref (a + 6), .ref (a + 7), .ref (a + 8), .ref (a + 9), .ref (a + 10)])) r9 (by omega)
  have r10n := getset (b := a) (c := .inr (4, [.int (N 0), .int (N 6), .int (N 1), .int (N 2), .int (opB N), .ref (a + 1), .ref (a + 2), .ref (a + 3), .ref (a + 4), .ref (a + 5), .ref (a + 6), .ref (a + 7), .ref (a + 8), .ref (a + 9), .ref (a + 10)])) r10 (by omega)
  change Ev D 1 mX4_copyFrom 40 [some (.ref a), some (.ref b)] [] (h.set (a) (.inr (4, [.int (N 0), .int (N 6), .int (N 1), .int (N 2), .int (opB N), .ref (a + 1), .ref (a + 2), .ref (a + 3), .ref (a + 4), .ref (a + 5), .ref (a + 6), .ref (a + 7), .ref (a + 8), .ref (a + 9), .ref (a + 10)]))) 0 0 post
  obtain ⟨h, hh9⟩ : ∃ z, z = h.set (a) (.inr (4, [.int (N 0), .int (N 6), .int (N 1), .int (N 2), .int (opB N), .ref (a + 1), .ref (a + 2), .ref (a + 3), .ref (a + 4), .ref (a + 5), .ref (a + 6), .ref (a + 7), .ref (a + 8), .ref (a + 9), .ref (a + 10)])) := ⟨_, rfl⟩
  rw [← hh9] at hB9 hU9 hl9 hLon r1n r2n r3n r4n r5n r6n r7n r8n r9n r10n ⊢
  clear hh9
  have hU := hU9
  have hl := hl9
  have hLo := hLon
  have r1 := r1n
  have r2 := r2n
  have r3 := r3n
  have r4 := r4n
  have r5 := r5n
  have r6 := r6n
  have r7 := r7n
  have r8 := r8n
  have r9 := r9n
  have r10 := r10n
  refine e_aload_n dX4_copyFrom_40 rfl ?_
  refine e_get dX4_copyFrom_41 fl_X4_27_4 ((hU b (by omega)).trans sLo) rfl ?_
  refine e_iconst (nI 0) dX4_copyFrom_44 (by decide) ?_
  refine e_aload_n dX4_copyFrom_45 rfl ?_
  refine e_get dX4_copyFrom_46 fl_X4_27_4 hLo rfl ?_
  refine e_iconst (nI 0) dX4_copyFrom_49 (by decide) ?_
  refine e_aload_n dX4_copyFrom_50 rfl ?_
  refine e_get dX4_copyFrom_51 fl_X4_27_4 hLo rfl ?_
  refine e_alen dX4_copyFrom_54 r1 ?_
  refine e_cpi dX4_copyFrom_55 cy_X4_72 (by decide) (Nat.le_of_ble_eq_true rfl) ((hU (b + 1) (by omega)).trans s1) r1 (by decide) (by decide) (fun g1 k1 => ?_)
  have hB9 : RB (h.set (a + 1) (.inl (0, 8, .inl g1))) := hB9.set (by omega) (fun fs e => by cases e)
  have hU9 : ∀ x, (x < a ∨ a + 10 < x) → (h.set (a + 1) (.inl (0, 8, .inl g1)))[x]? = h00[x]? := fun x hx => getset (hU x hx) (by omega)
  have hl9 : (h.set (a + 1) (.inl (0, 8, .inl g1))).length = h00.length := List.length_set.trans hl
  have hLon := getset (b := a + 1) (c := .inl (0, 8, .inl g1)) hLo (by omega)
  have r1n := getself (c := .inl (0, 8, .inl g1)) r1
  have r2n := getset (b := a + 1) (c := .inl (0, 8, .inl g1)) r2 (by omega)
  have r3n := getset (b := a + 1) (c := .inl (0, 8, .inl g1)) r3 (by omega)
  have r4n := getset (b := a + 1) (c := .inl (0, 8, .inl g1)) r4 (by omega)
  have r5n := getset (b := a + 1) (c := .inl (0, 8, .inl g1)) r5 (by omega)
  have r6n := getset (b := a + 1) (c := .inl (0, 8, .inl g1)) r6 (by omega)
  have r7n := getset (b := a + 1) (c := .inl (0, 8, .inl g1)) r7 (by omega)
  have r8n := getset (b := a + 1) (c := .inl (0, 8, .inl g1)) r8 (by omega)
  have r9n := getset (b := a + 1) (c := .inl (0, 8, .inl g1)) r9 (by omega)
  have r10n := getset (b := a + 1) (c := .inl (0, 8, .inl g1)) r10 (by omega)
  change Ev D 1 mX4_copyFrom 58 [some (.ref a), some (.ref b)] [] (h.set (a + 1) (.inl (0, 8, .inl g1))) 0 0 post
  obtain ⟨h, hh9⟩ : ∃ z, z = h.set (a + 1) (.inl (0, 8, .inl g1)) := ⟨_, rfl⟩
  rw [← hh9] at hB9 hU9 hl9 hLon r1n r2n r3n r4n r5n r6n r7n r8n r9n r10n ⊢
  clear hh9
  have hU := hU9
  have hl := hl9
  have hLo := hLon
  have r1 := r1n
  have r2 := r2n
  have r3 := r3n
  have r4 := r4n
  have r5 := r5n
  have r6 := r6n
  have r7 := r7n
  have r8 := r8n
  have r9 := r9n
  have r10 := r10n
  refine e_aload_n dX4_copyFrom_58 rfl ?_
  refine e_get dX4_copyFrom_59 fl_X4_31_4 ((hU b (by omega)).trans sLo) rfl ?_
  refine e_iconst (nI 0) dX4_copyFrom_62 (by decide) ?_
  refine e_aload_n dX4_copyFrom_63 rfl ?_
  refine e_get dX4_copyFrom_64 fl_X4_31_4 hLo rfl ?_
  refine e_iconst (nI 0) dX4_copyFrom_67 (by decide) ?_
  refine e_aload_n dX4_copyFrom_68 rfl ?_
  refine e_get dX4_copyFrom_69 fl_X4_31_4 hLo rfl ?_
  refine e_alen dX4_copyFrom_72 r2 ?_
  refine e_cpi dX4_copyFrom_73 cy_X4_72 (by decide) (Nat.le_of_ble_eq_true rfl) ((hU (b + 2) (by omega)).trans s2) r2 (by decide) (by decide) (fun g2 k2 => ?_)
  have hB9 : RB (h.set (a + 2) (.inl (0, 24, .inl g2))) := hB9.set (by omega) (fun fs e => by cases e)
  have hU9 : ∀ x, (x < a ∨ a + 10 < x) → (h.set (a + 2) (.inl (0, 24, .inl g2)))[x]? = h00[x]? := fun x hx => getset (hU x hx) (by omega)
  have hl9 : (h.set (a + 2) (.inl (0, 24, .inl g2))).length = h00.length := List.length_set.trans hl
  have hLon := getset (b := a + 2) (c := .inl (0, 24, .inl g2)) hLo (by omega)
  have r1n := getset (b := a + 2) (c := .inl (0, 24, .inl g2)) r1 (by omega)
  have r2n := getself (c := .inl (0, 24, .inl g2)) r2
  have r3n := getset (b := a + 2) (c := .inl (0, 24, .inl g2)) r3 (by omega)
  have r4n := getset (b := a + 2) (c := .inl (0, 24, .inl g2)) r4 (by omega)
  have r5n := getset (b := a + 2) (c := .inl (0, 24, .inl g2)) r5 (by omega)
  have r6n := getset (b := a + 2) (c := .inl (0, 24, .inl g2)) r6 (by omega)
  have r7n := getset (b := a + 2) (c := .inl (0, 24, .inl g2)) r7 (by omega)
  have r8n := getset (b := a + 2) (c := .inl (0, 24, .inl g2)) r8 (by omega)
  have r9n := getset (b := a + 2) (c := .inl (0, 24, .inl g2)) r9 (by omega)
  have r10n := getset (b := a + 2) (c := .inl (0, 24, .inl g2)) r10 (by omega)
  change Ev D 1 mX4_copyFrom 76 [some (.ref a), some (.ref b)] [] (h.set (a + 2) (.inl (0, 24, .inl g2))) 0 0 post
  obtain ⟨h, hh9⟩ : ∃ z, z = h.set (a + 2) (.inl (0, 24, .inl g2)) := ⟨_, rfl⟩
  rw [← hh9] at hB9 hU9 hl9 hLon r1n r2n r3n r4n r5n r6n r7n r8n r9n r10n ⊢
  clear hh9
  have hU := hU9
  have hl := hl9
  have hLo := hLon
  have r1 := r1n
  have r2 := r2n
  have r3 := r3n
  have r4 := r4n
  have r5 := r5n
  have r6 := r6n
  have r7 := r7n
  have r8 := r8n
  have r9 := r9n
  have r10 := r10n
  refine e_aload_n dX4_copyFrom_76 rfl ?_
  refine e_get dX4_copyFrom_77 fl_X4_34_4 ((hU b (by omega)).trans sLo) rfl ?_
  refine e_iconst (nI 0) dX4_copyFrom_80 (by decide) ?_
  refine e_aload_n dX4_copyFrom_81 rfl ?_
  refine e_get dX4_copyFrom_82 fl_X4_34_4 hLo rfl ?_
  refine e_iconst (nI 0) dX4_copyFrom_85 (by decide) ?_
  refine e_aload_n dX4_copyFrom_86 rfl ?_
  refine e_get dX4_copyFrom_87 fl_X4_34_4 hLo rfl ?_
  refine e_alen dX4_copyFrom_90 r3 ?_
  refine e_cpi dX4_copyFrom_91 cy_X4_72 (by decide) (Nat.le_of_ble_eq_true rfl) ((hU (b + 3) (by omega)).trans s3) r3 (by decide) (by decide) (fun g3 k3 => ?_)
  have hB9 : RB (h.set (a + 3) (.inl (0, 8, .inl g3))) := hB9.set (by omega) (fun fs e => by cases e)
  have hU9 : ∀ x, (x < a ∨ a + 10 < x) → (h.set (a + 3) (.inl (0, 8, .inl g3)))[x]? = h00[x]? := fun x hx => getset (hU x hx) (by omega)
  have hl9 : (h.set (a + 3) (.inl (0, 8, .inl g3))).length = h00.length := List.length_set.trans hl
  have hLon := getset (b := a + 3) (c := .inl (0, 8, .inl g3)) hLo (by omega)
  have r1n := getset (b := a + 3) (c := .inl (0, 8, .inl g3)) r1 (by omega)
  have r2n := getset (b := a + 3) (c := .inl (0, 8, .inl g3)) r2 (by omega)
  have r3n := getself (c := .inl (0, 8, .inl g3)) r3
  have r4n := getset (b := a + 3) (c := .inl (0, 8, .inl g3)) r4 (by omega)
  have r5n := getset (b := a + 3) (c := .inl (0, 8, .inl g3)) r5 (by omega)
  have r6n := getset (b := a + 3) (c := .inl (0, 8, .inl g3)) r6 (by omega)
  have r7n := getset (b := a + 3) (c := .inl (0, 8, .inl g3)) r7 (by omega)
  have r8n := getset (b := a + 3) (c := .inl (0, 8, .inl g3)) r8 (by omega)
  have r9n := getset (b := a + 3) (c := .inl (0, 8, .inl g3)) r9 (by omega)
  have r10n := getset (b := a + 3) (c := .inl (0, 8, .inl g3)) r10 (by omega)
  change Ev D 1 mX4_copyFrom 94 [some (.ref a), some (.ref b)] [] (h.set (a + 3) (.inl (0, 8, .inl g3))) 0 0 post
  obtain ⟨h, hh9⟩ : ∃ z, z = h.set (a + 3) (.inl (0, 8, .inl g3)) := ⟨_, rfl⟩
  rw [← hh9] at hB9 hU9 hl9 hLon r1n r2n r3n r4n r5n r6n r7n r8n r9n r10n ⊢
  clear hh9
  have hU := hU9
  have hl := hl9
  have hLo := hLon
  have r1 := r1n
  have r2 := r2n
  have r3 := r3n
  have r4 := r4n
  have r5 := r5n
  have r6 := r6n
  have r7 := r7n
  have r8 := r8n
  have r9 := r9n
  have r10 := r10n
  refine e_aload_n dX4_copyFrom_94 rfl ?_
  refine e_get dX4_copyFrom_95 fl_X4_39_4 ((hU b (by omega)).trans sLo) rfl ?_
  refine e_iconst (nI 0) dX4_copyFrom_98 (by decide) ?_
  refine e_aload_n dX4_copyFrom_99 rfl ?_
  refine e_get dX4_copyFrom_100 fl_X4_39_4 hLo rfl ?_
  refine e_iconst (nI 0) dX4_copyFrom_103 (by decide) ?_
  refine e_aload_n dX4_copyFrom_104 rfl ?_
  refine e_get dX4_copyFrom_105 fl_X4_39_4 hLo rfl ?_
  refine e_alenQ dX4_copyFrom_108 r4 (by omega) ?_
  refine e_cpq (t := 1) dX4_copyFrom_109 cy_X4_72 (by decide) (Nat.le_of_ble_eq_true rfl) (by omega) ((hU (b + 4) (by omega)).trans s4) r4 (by decide) (by decide) (fun i hi y hy => hel4 h hU i hi y hy) (fun g4 k4 => ?_)
  have hB9 : RB (h.set (a + 4) (.inl (1, 10, .inr (.inr (.inr (.inr g4)))))) := hB9.set (by omega) (fun fs e => by cases e)
  have hU9 : ∀ x, (x < a ∨ a + 10 < x) → (h.set (a + 4) (.inl (1, 10, .inr (.inr (.inr (.inr g4))))))[x]? = h00[x]? := fun x hx => getset (hU x hx) (by omega)
  have hl9 : (h.set (a + 4) (.inl (1, 10, .inr (.inr (.inr (.inr g4)))))).length = h00.length := List.length_set.trans hl
  have hLon := getset (b := a + 4) (c := .inl (1, 10, .inr (.inr (.inr (.inr g4))))) hLo (by omega)
  have r1n := getset (b := a + 4) (c := .inl (1, 10, .inr (.inr (.inr (.inr g4))))) r1 (by omega)
  have r2n := getset (b := a + 4) (c := .inl (1, 10, .inr (.inr (.inr (.inr g4))))) r2 (by omega)
  have r3n := getset (b := a + 4) (c := .inl (1, 10, .inr (.inr (.inr (.inr g4))))) r3 (by omega)
  have r4n := getself (c := .inl (1, 10, .inr (.inr (.inr (.inr g4))))) r4
  have r5n := getset (b := a + 4) (c := .inl (1, 10, .inr (.inr (.inr (.inr g4))))) r5 (by omega)
  have r6n := getset (b := a + 4) (c := .inl (1, 10, .inr (.inr (.inr (.inr g4))))) r6 (by omega)
  have r7n := getset (b := a + 4) (c := .inl (1, 10, .inr (.inr (.inr (.inr g4))))) r7 (by omega)
  have r8n := getset (b := a + 4) (c := .inl (1, 10, .inr (.inr (.inr (.inr g4))))) r8 (by omega)
  have r9n := getset (b := a + 4) (c := .inl (1, 10, .inr (.inr (.inr (.inr g4))))) r9 (by omega)
  have r10n := getset (b := a + 4) (c := .inl (1, 10, .inr (.inr (.inr (.inr g4))))) r10 (by omega)
  change Ev D 1 mX4_copyFrom 112 [some (.ref a), some (.ref b)] [] (h.set (a + 4) (.inl (1, 10, .inr (.inr (.inr (.inr g4)))))) 0 0 post
  obtain ⟨h, hh9⟩ : ∃ z, z = h.set (a + 4) (.inl (1, 10, .inr (.inr (.inr (.inr g4))))) := ⟨_, rfl⟩
  rw [← hh9] at hB9 hU9 hl9 hLon r1n r2n r3n r4n r5n r6n r7n r8n r9n r10n ⊢
  clear hh9
  have hU := hU9
  have hl := hl9
  have hLo := hLon
  have r1 := r1n
  have r2 := r2n
  have r3 := r3n
  have r4 := r4n
  have r5 := r5n
  have r6 := r6n
  have r7 := r7n
  have r8 := r8n
  have r9 := r9n
  have r10 := r10n
  refine e_aload_n dX4_copyFrom_112 rfl ?_
  refine e_get dX4_copyFrom_113 fl_X4_43_4 ((hU b (by omega)).trans sLo) rfl ?_
  refine e_iconst (nI 0) dX4_copyFrom_116 (by decide) ?_
  refine e_aload_n dX4_copyFrom_117 rfl ?_
  refine e_get dX4_copyFrom_118 fl_X4_43_4 hLo rfl ?_
  refine e_iconst (nI 0) dX4_copyFrom_121 (by decide) ?_
  refine e_aload_n dX4_copyFrom_122 rfl ?_
  refine e_get dX4_copyFrom_123 fl_X4_43_4 hLo rfl ?_
  refine e_alen dX4_copyFrom_126 r5 ?_
  refine e_cpi dX4_copyFrom_127 cy_X4_72 (by decide) (Nat.le_of_ble_eq_true rfl) ((hU (b + 5) (by omega)).trans s5) r5 (by decide) (by decide) (fun g5 k5 => ?_)
  have hB9 : RB (h.set (a + 5) (.inl (0, 10, .inl g5))) := hB9.set (by omega) (fun fs e => by cases e)
  have hU9 : ∀ x, (x < a ∨ a + 10 < x) → (h.set (a + 5) (.inl (0, 10, .inl g5)))[x]? = h00[x]? := fun x hx => getset (hU x hx) (by omega)
  have hl9 : (h.set (a + 5) (.inl (0, 10, .inl g5))).length = h00.length := List.length_set.trans hl
  have hLon := getset (b := a + 5) (c := .inl (0, 10, .inl g5)) hLo (by omega)
  have r1n := getset (b := a + 5) (c := .inl (0, 10, .inl g5)) r1 (by omega)
  have r2n := getset (b := a + 5) (c := .inl (0, 10, .inl g5)) r2 (by omega)
  have r3n := getset (b := a + 5) (c := .inl (0, 10, .inl g5)) r3 (by omega)
  have r4n := getset (b := a + 5) (c := .inl (0, 10, .inl g5)) r4 (by omega)
  have r5n := getself (c := .inl (0, 10, .inl g5)) r5
  have r6n := getset (b := a + 5) (c := .inl (0, 10, .inl g5)) r6 (by omega)
  have r7n := getset (b := a + 5) (c := .inl (0, 10, .inl g5)) r7 (by omega)
  have r8n := getset (b := a + 5) (c := .inl (0, 10, .inl g5)) r8 (by omega)
  have r9n := getset (b := a + 5) (c := .inl (0, 10, .inl g5)) r9 (by omega)
  have r10n := getset (b := a + 5) (c := .inl (0, 10, .inl g5)) r10 (by omega)
  change Ev D 1 mX4_copyFrom 130 [some (.ref a), some (.ref b)] [] (h.set (a + 5) (.inl (0, 10, .inl g5))) 0 0 post
  obtain ⟨h, hh9⟩ : ∃ z, z = h.set (a + 5) (.inl (0, 10, .inl g5)) := ⟨_, rfl⟩
  rw [← hh9] at hB9 hU9 hl9 hLon r1n r2n r3n r4n r5n r6n r7n r8n r9n r10n ⊢
  clear hh9
  have hU := hU9
  have hl := hl9
  have hLo := hLon
  have r1 := r1n
  have r2 := r2n
  have r3 := r3n
  have r4 := r4n
  have r5 := r5n
  have r6 := r6n
  have r7 := r7n
  have r8 := r8n
  have r9 := r9n
  have r10 := r10n
  refine e_aload_n dX4_copyFrom_130 rfl ?_
  refine e_get dX4_copyFrom_131 fl_X4_46_4 ((hU b (by omega)).trans sLo) rfl ?_
  refine e_iconst (nI 0) dX4_copyFrom_134 (by decide) ?_
  refine e_aload_n dX4_copyFrom_135 rfl ?_
  refine e_get dX4_copyFrom_136 fl_X4_46_4 hLo rfl ?_
  refine e_iconst (nI 0) dX4_copyFrom_139 (by decide) ?_
  refine e_aload_n dX4_copyFrom_140 rfl ?_
  refine e_get dX4_copyFrom_141 fl_X4_46_4 hLo rfl ?_
  refine e_alen dX4_copyFrom_144 r6 ?_
  refine e_cpi dX4_copyFrom_145 cy_X4_72 (by decide) (Nat.le_of_ble_eq_true rfl) ((hU (b + 6) (by omega)).trans s6) r6 (by decide) (by decide) (fun g6 k6 => ?_)
  have hB9 : RB (h.set (a + 6) (.inl (0, 10, .inl g6))) := hB9.set (by omega) (fun fs e => by cases e)
  have hU9 : ∀ x, (x < a ∨ a + 10 < x) → (h.set (a + 6) (.inl (0, 10, .inl g6)))[x]? = h00[x]? := fun x hx => getset (hU x hx) (by omega)
  have hl9 : (h.set (a + 6) (.inl (0, 10, .inl g6))).length = h00.length := List.length_set.trans hl
  have hLon := getset (b := a + 6) (c := .inl (0, 10, .inl g6)) hLo (by omega)
  have r1n := getset (b := a + 6) (c := .inl (0, 10, .inl g6)) r1 (by omega)
  have r2n := getset (b := a + 6) (c := .inl (0, 10, .inl g6)) r2 (by omega)
  have r3n := getset (b := a + 6) (c := .inl (0, 10, .inl g6)) r3 (by omega)
  have r4n := getset (b := a + 6) (c := .inl (0, 10, .inl g6)) r4 (by omega)
  have r5n := getset (b := a + 6) (c := .inl (0, 10, .inl g6)) r5 (by omega)
  have r6n := getself (c := .inl (0, 10, .inl g6)) r6
  have r7n := getset (b := a + 6) (c := .inl (0, 10, .inl g6)) r7 (by omega)
  have r8n := getset (b := a + 6) (c := .inl (0, 10, .inl g6)) r8 (by omega)
  have r9n := getset (b := a + 6) (c := .inl (0, 10, .inl g6)) r9 (by omega)
  have r10n := getset (b := a + 6) (c := .inl (0, 10, .inl g6)) r10 (by omega)
  change Ev D 1 mX4_copyFrom 148 [some (.ref a), some (.ref b)] [] (h.set (a + 6) (.inl (0, 10, .inl g6))) 0 0 post
  obtain ⟨h, hh9⟩ : ∃ z, z = h.set (a + 6) (.inl (0, 10, .inl g6)) := ⟨_, rfl⟩
  rw [← hh9] at hB9 hU9 hl9 hLon r1n r2n r3n r4n r5n r6n r7n r8n r9n r10n ⊢
  clear hh9
  have hU := hU9
  have hl := hl9
  have hLo := hLon
  have r1 := r1n
  have r2 := r2n
  have r3 := r3n
  have r4 := r4n
  have r5 := r5n
  have r6 := r6n
  have r7 := r7n
  have r8 := r8n
  have r9 := r9n
  have r10 := r10n
  refine e_aload_n dX4_copyFrom_148 rfl ?_
  refine e_get dX4_copyFrom_149 fl_X4_57_4 ((hU b (by omega)).trans sLo) rfl ?_
  refine e_iconst (nI 0) dX4_copyFrom_152 (by decide) ?_
  refine e_aload_n dX4_copyFrom_153 rfl ?_
  refine e_get dX4_copyFrom_154 fl_X4_57_4 hLo rfl ?_
  refine e_iconst (nI 0) dX4_copyFrom_157 (by decide) ?_
  refine e_aload_n dX4_copyFrom_158 rfl ?_
  refine e_get dX4_copyFrom_159 fl_X4_57_4 hLo rfl ?_
  refine e_alen dX4_copyFrom_162 r7 ?_
  refine e_cpi dX4_copyFrom_163 cy_X4_72 (by decide) (Nat.le_of_ble_eq_true rfl) ((hU (b + 7) (by omega)).trans s7) r7 (by decide) (by decide) (fun g7 k7 => ?_)
  have hB9 : RB (h.set (a + 7) (.inl (0, 6, .inl g7))) := hB9.set (by omega) (fun fs e => by cases e)
  have hU9 : ∀ x, (x < a ∨ a + 10 < x) → (h.set (a + 7) (.inl (0, 6, .inl g7)))[x]? = h00[x]? := fun x hx => getset (hU x hx) (by omega)
  have hl9 : (h.set (a + 7) (.inl (0, 6, .inl g7))).length = h00.length := List.length_set.trans hl
  have hLon := getset (b := a + 7) (c := .inl (0, 6, .inl g7)) hLo (by omega)
  have r1n := getset (b := a + 7) (c := .inl (0, 6, .inl g7)) r1 (by omega)
  have r2n := getset (b := a + 7) (c := .inl (0, 6, .inl g7)) r2 (by omega)
  have r3n := getset (b := a + 7) (c := .inl (0, 6, .inl g7)) r3 (by omega)
  have r4n := getset (b := a + 7) (c := .inl (0, 6, .inl g7)) r4 (by omega)
  have r5n := getset (b := a + 7) (c := .inl (0, 6, .inl g7)) r5 (by omega)
  have r6n := getset (b := a + 7) (c := .inl (0, 6, .inl g7)) r6 (by omega)
  have r7n := getself (c := .inl (0, 6, .inl g7)) r7
  have r8n := getset (b := a + 7) (c := .inl (0, 6, .inl g7)) r8 (by omega)
  have r9n := getset (b := a + 7) (c := .inl (0, 6, .inl g7)) r9 (by omega)
  have r10n := getset (b := a + 7) (c := .inl (0, 6, .inl g7)) r10 (by omega)
  change Ev D 1 mX4_copyFrom 166 [some (.ref a), some (.ref b)] [] (h.set (a + 7) (.inl (0, 6, .inl g7))) 0 0 post
  obtain ⟨h, hh9⟩ : ∃ z, z = h.set (a + 7) (.inl (0, 6, .inl g7)) := ⟨_, rfl⟩
  rw [← hh9] at hB9 hU9 hl9 hLon r1n r2n r3n r4n r5n r6n r7n r8n r9n r10n ⊢
  clear hh9
  have hU := hU9
  have hl := hl9
  have hLo := hLon
  have r1 := r1n
  have r2 := r2n
  have r3 := r3n
  have r4 := r4n
  have r5 := r5n
  have r6 := r6n
  have r7 := r7n
  have r8 := r8n
  have r9 := r9n
  have r10 := r10n
  refine e_aload_n dX4_copyFrom_166 rfl ?_
  refine e_get dX4_copyFrom_167 fl_X4_62_4 ((hU b (by omega)).trans sLo) rfl ?_
  refine e_iconst (nI 0) dX4_copyFrom_170 (by decide) ?_
  refine e_aload_n dX4_copyFrom_171 rfl ?_
  refine e_get dX4_copyFrom_172 fl_X4_62_4 hLo rfl ?_
  refine e_iconst (nI 0) dX4_copyFrom_175 (by decide) ?_
  refine e_aload_n dX4_copyFrom_176 rfl ?_
  refine e_get dX4_copyFrom_177 fl_X4_62_4 hLo rfl ?_
  refine e_alenQ dX4_copyFrom_180 r8 (by omega) ?_
  refine e_cpq (t := 2) dX4_copyFrom_181 cy_X4_72 (by decide) (Nat.le_of_ble_eq_true rfl) (by omega) ((hU (b + 8) (by omega)).trans s8) r8 (by decide) (by decide) (fun i hi y hy => hel8 h hU i hi y hy) (fun g8 k8 => ?_)
  have hB9 : RB (h.set (a + 8) (.inl (2, 3, .inr (.inr (.inr (.inr g8)))))) := hB9.set (by omega) (fun fs e => by cases e)
  have hU9 : ∀ x, (x < a ∨ a + 10 < x) → (h.set (a + 8) (.inl (2, 3, .inr (.inr (.inr (.inr g8))))))[x]? = h00[x]? := fun x hx => getset (hU x hx) (by omega)
  have hl9 : (h.set (a + 8) (.inl (2, 3, .inr (.inr (.inr (.inr g8)))))).length = h00.length := List.length_set.trans hl
  have hLon := getset (b := a + 8) (c := .inl (2, 3, .inr (.inr (.inr (.inr g8))))) hLo (by omega)
  have r1n := getset (b := a + 8) (c := .inl (2, 3, .inr (.inr (.inr (.inr g8))))) r1 (by omega)
  have r2n := getset (b := a + 8) (c := .inl (2, 3, .inr (.inr (.inr (.inr g8))))) r2 (by omega)
  have r3n := getset (b := a + 8) (c := .inl (2, 3, .inr (.inr (.inr (.inr g8))))) r3 (by omega)
  have r4n := getset (b := a + 8) (c := .inl (2, 3, .inr (.inr (.inr (.inr g8))))) r4 (by omega)
  have r5n := getset (b := a + 8) (c := .inl (2, 3, .inr (.inr (.inr (.inr g8))))) r5 (by omega)
  have r6n := getset (b := a + 8) (c := .inl (2, 3, .inr (.inr (.inr (.inr g8))))) r6 (by omega)
  have r7n := getset (b := a + 8) (c := .inl (2, 3, .inr (.inr (.inr (.inr g8))))) r7 (by omega)
  have r8n := getself (c := .inl (2, 3, .inr (.inr (.inr (.inr g8))))) r8
  have r9n := getset (b := a + 8) (c := .inl (2, 3, .inr (.inr (.inr (.inr g8))))) r9 (by omega)
  have r10n := getset (b := a + 8) (c := .inl (2, 3, .inr (.inr (.inr (.inr g8))))) r10 (by omega)
  change Ev D 1 mX4_copyFrom 184 [some (.ref a), some (.ref b)] [] (h.set (a + 8) (.inl (2, 3, .inr (.inr (.inr (.inr g8)))))) 0 0 post
  obtain ⟨h, hh9⟩ : ∃ z, z = h.set (a + 8) (.inl (2, 3, .inr (.inr (.inr (.inr g8))))) := ⟨_, rfl⟩
  rw [← hh9] at hB9 hU9 hl9 hLon r1n r2n r3n r4n r5n r6n r7n r8n r9n r10n ⊢
  clear hh9
  have hU := hU9
  have hl := hl9
  have hLo := hLon
  have r1 := r1n
  have r2 := r2n
  have r3 := r3n
  have r4 := r4n
  have r5 := r5n
  have r6 := r6n
  have r7 := r7n
  have r8 := r8n
  have r9 := r9n
  have r10 := r10n
  have hH : ∀ x, 97 ≤ x → h[x]? = h00[x]? := fun x hx => hU x (by omega)
  refine e_vret dX4_copyFrom_184 rfl (hp _ ⟨⟨⟨hLo, ⟨g1, r1, fun v hv => (k1 v hv).trans (e1 v hv)⟩, ⟨g2, r2, fun v hv w hw => (k2 _ (by omega)).trans (e2 v hv w hw)⟩, ⟨g3, r3, fun v hv => (k3 v hv).trans (e3 v hv)⟩, ⟨g4, r4, fun t ht => ?_⟩, ⟨g5, r5, fun t ht => (k5 t (by omega)).trans (e5 t ht)⟩, ⟨g6, r6, fun t ht => (k6 t (by omega)).trans (e6 t ht)⟩, ⟨g7, r7, fun t ht => (k7 t ht).trans (e7 t ht)⟩, ⟨g8, r8, fun u hu => ?_⟩, ⟨_, r9⟩, ⟨_, r10⟩⟩, hB9, ha⟩, ⟨g4, r4, fun t h1 h2 => (k4 t h2).trans (t5 t h1 h2)⟩, hl, hU⟩)
  · obtain ⟨y, hy, hb⟩ := e4 t ht
    exact ⟨y, (k4 t (by omega)).trans hy, hb.hi hH⟩
  · rcases e8 u hu with ⟨z, w⟩ | ⟨z, r, w, hr⟩
    · exact Or.inl ⟨z, (k8 u hu).trans w⟩
    · exact Or.inr ⟨z, r, (k8 u hu).trans w, hr.hi hH⟩
