theorem eqR_iff {A B : Nat → Int32} : ∀ n, eqR A B n = true ↔ ∀ i, i < n → A (16 + i) = B (16 + i) := by
  intro n
  induction n with
  | zero => exact ⟨fun _ i hi => absurd hi (Nat.not_lt_zero i), fun _ => rfl⟩
  | succ n ih =>
    rw [eqR, Bool.and_eq_true, ih, decide_eq_true_iff]
    constructor
    · intro q i hi
      by_cases e : i = n
      · rw [e]; exact q.2
      · exact q.1 i (by omega)
    · intro q
      exact ⟨fun i hi => q i (by omega), q n (by omega)⟩
/-- the people's row of a Land -/
def PE (h : AH) (a : Nat) (Y : Nat → Int32) : Prop := ∃ f, Row0 h (a + 2) 24 f ∧ ∀ v, v < 8 → ∀ w, w < 3 → f (3 * v + w) = Y (16 + 4 * v + 1 + w)
theorem LandAt.pe2 {h : AH} {a : Nat} {N : Nat → Int32} (hL : LandAt h a N) : PE h a N := hL.2.2.1
theorem pe_t {f g N Y : Nat → Int32} {n : Nat} (hn : n ≤ 8) (hf : ∀ v, v < 8 → ∀ w, w < 3 → f (3 * v + w) = N (16 + 4 * v + 1 + w)) (hg : ∀ v, v < 8 → ∀ w, w < 3 → g (3 * v + w) = Y (16 + 4 * v + 1 + w)) (hpl : ∀ v, v < n → N (16 + 4 * v) = Y (16 + 4 * v)) (hE : ∀ i, i < 3 * n → f i = g i) : eqR N Y (4 * n) = true := by
  rw [eqR_iff]
  intro i hi
  by_cases e : i % 4 = 0
  · have := hpl (i / 4) (by omega)
    rw [show 16 + 4 * (i / 4) = 16 + i by omega] at this
    exact this
  · have h1 := hf (i / 4) (by omega) (i % 4 - 1) (by omega)
    have h2 := hg (i / 4) (by omega) (i % 4 - 1) (by omega)
    rw [show 16 + 4 * (i / 4) + 1 + (i % 4 - 1) = 16 + i by omega] at h1 h2
    rw [← h1, ← h2]
    exact hE _ (by omega)
theorem pe_f {f g N Y : Nat → Int32} {n i : Nat} (hn : n ≤ 8) (hf : ∀ v, v < 8 → ∀ w, w < 3 → f (3 * v + w) = N (16 + 4 * v + 1 + w)) (hg : ∀ v, v < 8 → ∀ w, w < 3 → g (3 * v + w) = Y (16 + 4 * v + 1 + w)) (hi : i < 3 * n) (hE : ¬ f i = g i) : ¬ eqR N Y (4 * n) = true := by
  rw [eqR_iff]
  intro q
  have h1 := hf (i / 3) (by omega) (i % 3) (by omega)
  have h2 := hg (i / 3) (by omega) (i % 3) (by omega)
  rw [show 3 * (i / 3) + i % 3 = i by omega] at h1 h2
  have h3 := q (4 * (i / 3) + 1 + i % 3) (by omega)
  rw [show 16 + (4 * (i / 3) + 1 + i % 3) = 16 + 4 * (i / 3) + 1 + i % 3 by omega] at h3
  exact hE (h1.trans (h3.trans h2.symm))
set_option maxRecDepth 20000 in
theorem kl_has (D : En) {h : AH} {a b : Nat} {N Y M : Nat → Int32} {f g : Nat → Int32} (hLo : h[a]? = some (.inr (4, lnF a N))) (hI : IN N) (hBo : h[b]? = some (.inr (4, lnF b M))) (hr : Row0 h (a + 2) 24 f) (hs : Row0 h (b + 2) 24 g) (hf : ∀ v, v < 8 → ∀ w, w < 3 → f (3 * v + w) = N (16 + 4 * v + 1 + w)) (hg : ∀ v, v < 8 → ∀ w, w < 3 → g (3 * v + w) = Y (16 + 4 * v + 1 + w)) (hpl : ∀ v, v < nvN N → N (16 + 4 * v) = Y (16 + 4 * v)) {post : Option Value → AH → Prop} (hp : ∀ h', h' = h → post (some (.int (b2 (eqR N Y (4 * nvN N) = true)))) h') : ∀ (j i : Nat), i + j = 3 * nvN N → (∀ k, k < i → f k = g k) → Ev D 0 mX4_hasPeopleOf 2 [some (.ref a), some (.ref b), some (.int (nI i))] [] h 0 0 post := by
  have hnv := hI.1.2.1
  intro j
  induction j with
  | zero =>
    intro i hm hE
    refine e_iload_n dX4_hasPeopleOf_2 rfl ?_
    refine e_iconst (nI 3) dX4_hasPeopleOf_3 (by decide) ?_
    refine e_aload_n dX4_hasPeopleOf_4 rfl ?_
    refine e_get dX4_hasPeopleOf_5 fl_X4_18_4 hLo rfl ?_
    refine e_top (nI (nvN N)) hI.1.1 ?_
    refine e_imulN dX4_hasPeopleOf_8 ?_
    refine e_icmp_geN 35 dX4_hasPeopleOf_9 (by decide) (by omega) (by omega) (fun hc => ?_) (fun hc => absurd hc (by omega))
    refine e_iconst (nI 1) dX4_hasPeopleOf_35 (by decide) ?_
    refine e_top (b2 (eqR N Y (4 * nvN N) = true)) (b2_t (pe_t hnv hf hg hpl (fun k hk => hE k (by omega)))).symm ?_
    exact e_zretB dX4_hasPeopleOf_36 rfl (hp _ rfl)
  | succ j ih =>
    intro i hm hE
    refine e_iload_n dX4_hasPeopleOf_2 rfl ?_
    refine e_iconst (nI 3) dX4_hasPeopleOf_3 (by decide) ?_
    refine e_aload_n dX4_hasPeopleOf_4 rfl ?_
    refine e_get dX4_hasPeopleOf_5 fl_X4_18_4 hLo rfl ?_
    refine e_top (nI (nvN N)) hI.1.1 ?_
    refine e_imulN dX4_hasPeopleOf_8 ?_
    refine e_icmp_geN 35 dX4_hasPeopleOf_9 (by decide) (by omega) (by omega) (fun hc => absurd hc (by omega)) (fun hc => ?_)
    refine e_aload_n dX4_hasPeopleOf_12 rfl ?_
    refine e_get dX4_hasPeopleOf_13 fl_X4_31_4 hLo rfl ?_
    refine e_iload_n dX4_hasPeopleOf_16 rfl ?_
    refine e_ild i (f i) dX4_hasPeopleOf_17 hr rfl (by omega) (by decide) rfl ?_
    refine e_aload_n dX4_hasPeopleOf_18 rfl ?_
    refine e_get dX4_hasPeopleOf_19 fl_X4_31_4 hBo rfl ?_
    refine e_iload_n dX4_hasPeopleOf_22 rfl ?_
    refine e_ild i (g i) dX4_hasPeopleOf_23 hs rfl (by omega) (by decide) rfl ?_
    refine e_icmp_eq 29 dX4_hasPeopleOf_24 (by decide) (fun hq => ?_) (fun hq => ?_)
    · refine e_iincN (i + 1) dX4_hasPeopleOf_29 rfl (by decide) (nI_add _ _) ?_
      refine e_goto 2 dX4_hasPeopleOf_32 (by decide) ?_
      refine ih (i + 1) (by omega) (fun k hk => ?_)
      by_cases e : k = i
      · rw [e]; exact hq
      · exact hE k (by omega)
    · refine e_iconst (nI 0) dX4_hasPeopleOf_27 (by decide) ?_
      refine e_top (b2 (eqR N Y (4 * nvN N) = true)) (b2_f (pe_f hnv hf hg (by omega) hq)).symm ?_
      exact e_zretB dX4_hasPeopleOf_28 rfl (hp _ rfl)
set_option maxRecDepth 20000 in
theorem k_has (D : En) {h : AH} {a b : Nat} {N Y : Nat → Int32} (hL : LandAt h a N) (hI : IN N) (hB : Shp h b) (hP : PE h b Y) (hpl : ∀ v, v < nvN N → N (16 + 4 * v) = Y (16 + 4 * v)) : Sp D 0 mX4_hasPeopleOf [.ref a, .ref b] h 0 0 (some (.int (b2 (eqR N Y (4 * nvN N) = true)))) (fun h' => h' = h) := by
  obtain ⟨⟨M, hBo⟩, -⟩ := hB
  obtain ⟨g, hs, hg⟩ := hP
  obtain ⟨f, hr, hf⟩ := hL.pe2
  intro post hp
  show Ev D 0 mX4_hasPeopleOf 0 [some (.ref a), some (.ref b), none] [] h 0 0 post
  refine e_iconst (nI (0)) dX4_hasPeopleOf_0 (by decide) ?_
  refine e_istore_n dX4_hasPeopleOf_1 (by decide) ?_
  exact kl_has D hL.1 hI hBo hr hs hf hg hpl hp (3 * nvN N) 0 (by omega) (fun k hk => absurd hk (Nat.not_lt_zero k))
set_option maxRecDepth 20000 in
theorem k_take (D : En) {h : AH} {a b : Nat} {Y : Nat → Int32} (hA : Shp h a) (hB : Shp h b) (hP : PE h b Y) : Sp D 1 mX4_takePeopleOf [.ref a, .ref b] h 0 0 none (fun h' => ∃ g, h' = h.set (a + 2) (.inl (0, 24, .inl g)) ∧ PE h' a Y ∧ Shp h' a ∧ FA a h h') := by
  obtain ⟨⟨M, hLo⟩, ⟨f1, r1⟩, ⟨f2, r2⟩, ⟨f3, r3⟩, ⟨f4, r4⟩, ⟨f5, r5⟩, ⟨f6, r6⟩, ⟨f7, r7⟩, ⟨f8, r8⟩, ⟨f9, r9⟩, ⟨f10, r10⟩, ⟨fG, rG⟩⟩ := hA
  obtain ⟨⟨M2, hBo⟩, -⟩ := hB
  obtain ⟨f, hs, hf⟩ := hP
  intro post hp
  show Ev D 1 mX4_takePeopleOf 0 [some (.ref a), some (.ref b)] [] h 0 0 post
  refine e_aload_n dX4_takePeopleOf_0 rfl ?_
  refine e_get dX4_takePeopleOf_1 fl_X4_31_4 hBo rfl ?_
  refine e_iconst (nI 0) dX4_takePeopleOf_4 (by decide) ?_
  refine e_aload_n dX4_takePeopleOf_5 rfl ?_
  refine e_get dX4_takePeopleOf_6 fl_X4_31_4 hLo rfl ?_
  refine e_iconst (nI 0) dX4_takePeopleOf_9 (by decide) ?_
  refine e_aload_n dX4_takePeopleOf_10 rfl ?_
  refine e_get dX4_takePeopleOf_11 fl_X4_31_4 hLo rfl ?_
  refine e_alen dX4_takePeopleOf_14 r2 ?_
  refine e_cpi dX4_takePeopleOf_15 cy_X4_75 (by decide) (Nat.le_of_ble_eq_true rfl) hs r2 (by decide) (by decide) (fun g hg => ?_)
  refine e_vret dX4_takePeopleOf_18 rfl (hp _ ⟨g, rfl, ⟨g, getself r2, fun v hv w hw => (hg _ (by omega)).trans (hf v hv w hw)⟩, ⟨⟨M, getset hLo (by omega)⟩, ⟨f1, getset r1 (by omega)⟩, ⟨g, getself r2⟩, ⟨f3, getset r3 (by omega)⟩, ⟨f4, getset r4 (by omega)⟩, ⟨f5, getset r5 (by omega)⟩, ⟨f6, getset r6 (by omega)⟩, ⟨f7, getset r7 (by omega)⟩, ⟨f8, getset r8 (by omega)⟩, ⟨f9, getset r9 (by omega)⟩, ⟨f10, getset r10 (by omega)⟩, ⟨fG, getset rG (by omega)⟩⟩, List.length_set, fun x hx => List.getElem?_set_ne (by omega)⟩)
set_option maxRecDepth 20000 in
theorem mpW_lv (Y : Nat → Int32) (g : Int32) : ∀ v, mpW Y g v ≤ v := by
  intro v
  induction v with
  | zero => exact Nat.le_refl 0
  | succ v ih =>
    rw [mpW]
    split
    · omega
    · split
      · omega
      · split <;> omega
theorem bI_s (v : Nat) : bI (v + 1) = nI v := by rw [bI, if_neg (by omega), Nat.add_sub_cancel]
set_option maxRecDepth 20000 in
theorem kl_most (D : En) {h : AH} {a : Nat} {N : Nat → Int32} (hL : LandAt h a N) (hI : IN N) (g : Int32) {post : Option Value → AH → Prop} (hp : ∀ h', h' = h → post (some (.int (bI (mpW N g (nvN N))))) h') : ∀ (j v : Nat) (x4 : Option Value), v + j = nvN N → Ev D 1 mX4_mostPeopled 4 [some (.ref a), some (.int g), some (.int (bI (mpW N g v))), some (.int (nI v)), x4] [] h 0 0 post := by
  have hnv := hI.1.2.1
  have hLo := hL.1
  intro j
  induction j with
  | zero =>
    intro v x4 hm
    obtain rfl : v = nvN N := by omega
    refine e_iload_n dX4_mostPeopled_4 rfl ?_
    refine e_aload_n dX4_mostPeopled_5 rfl ?_
    refine e_get dX4_mostPeopled_6 fl_X4_18_4 hLo rfl ?_
    refine e_top (nI (nvN N)) hI.1.1 ?_
    refine e_icmp_geN 57 dX4_mostPeopled_9 (by decide) (by omega) (by omega) (fun hc => ?_) (fun hc => absurd hc (by omega))
    refine e_iload_n dX4_mostPeopled_57 rfl ?_
    exact e_iret dX4_mostPeopled_58 rfl (hp _ rfl)
  | succ j ih =>
    intro v x4 hm
    have hle := mpW_lv N g v
    refine e_iload_n dX4_mostPeopled_4 rfl ?_
    refine e_aload_n dX4_mostPeopled_5 rfl ?_
    refine e_get dX4_mostPeopled_6 fl_X4_18_4 hLo rfl ?_
    refine e_top (nI (nvN N)) hI.1.1 ?_
    refine e_icmp_geN 57 dX4_mostPeopled_9 (by decide) (by omega) (by omega) (fun hc => absurd hc (by omega)) (fun hc => ?_)
    refine e_iload_n dX4_mostPeopled_12 rfl ?_
    refine e_iload_n dX4_mostPeopled_13 rfl ?_
    refine e_ishr dX4_mostPeopled_14 ?_
    refine e_iconst (nI 1) dX4_mostPeopled_15 (by decide) ?_
    refine e_iand dX4_mostPeopled_16 ?_
    refine e_if_ne 24 dX4_mostPeopled_17 (by decide) (fun hb => ?_) (fun hb => ?_)
    · have hb1 : (g >>> (nI v &&& 31)) &&& nI 1 = nI 1 := Decidable.of_not_not (fun z => hb ((tb01 (by omega)).mpr z))
      refine e_iconst (nI 0) dX4_mostPeopled_24 (by decide) ?_
      refine e_istore dX4_mostPeopled_25 (by decide) ?_
      refine e_iload dX4_mostPeopled_27 rfl ?_
      refine e_if_eq 51 dX4_mostPeopled_29 (by decide) (fun hz => ?_) (fun hz => absurd rfl hz)
      refine e_iincN (v + 1) dX4_mostPeopled_51 rfl (by decide) (nI_add _ _) ?_
      refine e_goto 4 dX4_mostPeopled_54 (by decide) ?_
      have kk := ih (v + 1) (some (.int (nI 0))) (by omega)
      rw [mpW, if_pos hb1] at kk
      exact kk
    · have hb1 := (tb01 (x := g) (t := v) (by omega)).mp hb
      refine e_iconst (nI 1) dX4_mostPeopled_20 (by decide) ?_
      refine e_goto 25 dX4_mostPeopled_21 (by decide) ?_
      refine e_istore dX4_mostPeopled_25 (by decide) ?_
      refine e_iload dX4_mostPeopled_27 rfl ?_
      refine e_if_eq 51 dX4_mostPeopled_29 (by decide) (fun hz => absurd hz (by decide)) (fun hz => ?_)
      refine e_iload_n dX4_mostPeopled_32 rfl ?_
      cases hm0 : mpW N g v with
      | zero =>
        refine e_if_lt 49 dX4_mostPeopled_33 (by decide) (fun hz => ?_) (fun hz => absurd (show bI 0 < 0 by decide) hz)
        refine e_iload_n dX4_mostPeopled_49 rfl ?_
        refine e_istore_n dX4_mostPeopled_50 (by decide) ?_
        refine e_iincN (v + 1) dX4_mostPeopled_51 rfl (by decide) (nI_add _ _) ?_
        refine e_goto 4 dX4_mostPeopled_54 (by decide) ?_
        have kk := ih (v + 1) (some (.int (nI 1))) (by omega)
        rw [mpW, if_neg hb1, if_pos hm0, bI_s] at kk
        exact kk
      | succ c =>
        refine e_top (nI c) (bI_s c) ?_
        refine e_if_ltN (tgt := 49) dX4_mostPeopled_33 (by decide) (by omega) ?_
        refine e_aload_n dX4_mostPeopled_36 rfl ?_
        refine e_iload_n dX4_mostPeopled_37 rfl ?_
        refine c_V1iR (N := mX4_allOf) dX4_mostPeopled_38 lv_X4_115 mo_X4_allOf hL.cn (Nat.le_of_ble_eq_true rfl) (Nat.le_of_ble_eq_true rfl) (by decide) (k_allOf D hL hI v (by omega)) ?_
        refine e_aload_n dX4_mostPeopled_41 rfl ?_
        refine e_iload_n dX4_mostPeopled_42 rfl ?_
        refine e_top (nI c) (bI_s c) ?_
        refine c_V1iR (N := mX4_allOf) dX4_mostPeopled_43 lv_X4_115 mo_X4_allOf hL.cn (Nat.le_of_ble_eq_true rfl) (Nat.le_of_ble_eq_true rfl) (by decide) (k_allOf D hL hI c (by omega)) ?_
        refine e_icmp_le 51 dX4_mostPeopled_46 (by decide) (fun hz => ?_) (fun hz => ?_)
        · refine e_iincN (v + 1) dX4_mostPeopled_51 rfl (by decide) (nI_add _ _) ?_
          refine e_goto 4 dX4_mostPeopled_54 (by decide) ?_
          have kk := ih (v + 1) (some (.int (nI 1))) (by omega)
          rw [mpW, if_neg hb1, if_neg (by omega), hm0, Nat.add_sub_cancel, if_pos hz] at kk
          exact kk
        · refine e_iload_n dX4_mostPeopled_49 rfl ?_
          refine e_istore_n dX4_mostPeopled_50 (by decide) ?_
          refine e_iincN (v + 1) dX4_mostPeopled_51 rfl (by decide) (nI_add _ _) ?_
          refine e_goto 4 dX4_mostPeopled_54 (by decide) ?_
          have kk := ih (v + 1) (some (.int (nI 1))) (by omega)
          rw [mpW, if_neg hb1, if_neg (by omega), hm0, Nat.add_sub_cancel, if_neg hz, bI_s] at kk
          exact kk
theorem k_most (D : En) {h : AH} {a : Nat} {N : Nat → Int32} (hL : LandAt h a N) (hI : IN N) (g : Int32) : Sp D 1 mX4_mostPeopled [.ref a, .int g] h 0 0 (some (.int (bI (mpW N g (nvN N))))) (fun h' => h' = h) := by
  intro post hp
  show Ev D 1 mX4_mostPeopled 0 [some (.ref a), some (.int g), none, none, none] [] h 0 0 post
  refine e_iconst (-1) dX4_mostPeopled_0 (by decide) ?_
  refine e_istore_n dX4_mostPeopled_1 (by decide) ?_
  refine e_iconst (nI 0) dX4_mostPeopled_2 (by decide) ?_
  refine e_istore_n dX4_mostPeopled_3 (by decide) ?_
  exact kl_most D hL hI g hp (nvN N) 0 none (by omega)
