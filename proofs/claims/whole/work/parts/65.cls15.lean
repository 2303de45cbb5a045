/-- a Land whose row `serves` may be stale -/
def LandU (h : AH) (a : Nat) (N : Nat → Int32) : Prop := h[a]? = some (.inr (4, lnF a N)) ∧
  (∃ f, Row0 h (a + 1) 8 f ∧ ∀ v, v < 8 → f v = N (16 + 4 * v)) ∧
  (∃ f, Row0 h (a + 2) 24 f ∧ ∀ v, v < 8 → ∀ w, w < 3 → f (3 * v + w) = N (16 + 4 * v + 1 + w)) ∧
  (∃ f, Row0 h (a + 3) 8 f ∧ ∀ v, v < 8 → f v = mdB N v) ∧
  (∃ T, h[a + 4]? = some (.inl (1, 10, .inr (.inr (.inr (.inr T))))) ∧ ∀ t, t < tcN N → ∃ b, T t = some b ∧ ThingAt h b t N) ∧
  (∃ f, Row0 h (a + 5) 10 f ∧ ∀ t, t < tcN N → f t = N (112 + 7 * t + 6)) ∧
  (∃ f, Row0 h (a + 6) 10 f) ∧
  (∃ f, Row0 h (a + 8) 6 f ∧ ∀ k, k < 6 → f k = N (7 + k)) ∧
  (∃ R, h[a + 9]? = some (.inl (2, 3, .inr (.inr (.inr (.inr R))))) ∧ ∀ u, u < 3 → (txN N u = [] ∧ R u = none) ∨ (txN N u ≠ [] ∧ ∃ r, R u = some r ∧ RuleAt h r u (txN N u))) ∧
  (∃ f, Row0 h (a + 10) 8 f) ∧ (∃ f, Row0 h (a + 11) 3 f) ∧ (∃ f, Row0 h (a + 7) 10 f ∧ ∀ t, t < tcN N → f t = G0 (kdN N t))
theorem LandU.cn {h : AH} {a : Nat} {N : Nat → Int32} (hL : LandU h a N) : CN h a RX4 := Or.inl ⟨4, lnF a N, _, hL.1, rfl, rfl⟩
theorem LandU.w6 {h : AH} {a : Nat} {N : Nat → Int32} (hL : LandU h a N) (ha : a + 11 < 101) (f : Nat → Int32) : LandU (h.set (a + 6) (.inl (0, 10, .inl f))) a N := by
  obtain ⟨hLo, ⟨f1, hr1, he1⟩, ⟨f2, hr2, he2⟩, ⟨f3, hr3, he3⟩, ⟨T4, hr4, he4⟩, ⟨f5, hr5, he5⟩, ⟨f6, hr6⟩, ⟨f7, hr7, he7⟩, ⟨R8, hr8, he8⟩, ⟨f9, hr9⟩, ⟨f10, hr10⟩, ⟨fG, hrG, heG⟩⟩ := hL
  have hH : ∀ x, 101 ≤ x → (h.set (a + 6) (.inl (0, 10, .inl f)))[x]? = h[x]? := fun x hx => List.getElem?_set_ne (by omega)
  refine ⟨getset hLo (by omega), ⟨f1, getset hr1 (by omega), he1⟩, ⟨f2, getset hr2 (by omega), he2⟩, ⟨f3, getset hr3 (by omega), he3⟩, ⟨T4, getset hr4 (by omega), fun t ht => ?_⟩, ⟨f5, getset hr5 (by omega), he5⟩, ⟨f, getself hr6⟩, ⟨f7, getset hr7 (by omega), he7⟩, ⟨R8, getset hr8 (by omega), fun u hu => ?_⟩, ⟨f9, getset hr9 (by omega)⟩, ⟨f10, getset hr10 (by omega)⟩, ⟨fG, getset hrG (by omega), heG⟩⟩
  · obtain ⟨y, hy, hb⟩ := he4 t ht
    exact ⟨y, hy, hb.hi hH⟩
  · rcases he8 u hu with z | ⟨z, r, w, hr⟩
    · exact Or.inl z
    · exact Or.inr ⟨z, r, w, hr.hi hH⟩
theorem LandU.at_ {h : AH} {a : Nat} {N : Nat → Int32} (hL : LandU h a N) {f : Nat → Int32} (hf : Row0 h (a + 6) 10 f) (he : ∀ t, t < tcN N → f t = servedR N (nvN N) t) : LandAt h a N := by
  obtain ⟨k0, k1, k2, k3, k4, k5, -, k7, k8, k9, k10⟩ := hL
  exact ⟨k0, k1, k2, k3, k4, k5, ⟨f, hf, he⟩, k7, k8, k9, k10⟩
set_option maxRecDepth 20000 in
theorem u_isMended (D : En) {h : AH} {a : Nat} {N : Nat → Int32} (hL : LandU h a N) (hI : IN N) (v w : Nat) (hv : v < 8) (hw : w < 8) : Sp D 0 mX4_isMended [.ref (a), .int (nI (v)), .int (nI (w))] h 0 0 (some (.int (b2 (N (48 + 8 * v + w) = nI 1)))) (fun h' => h' = h) := by
  obtain ⟨hLo, ⟨f1, hr1, he1⟩, ⟨f2, hr2, he2⟩, ⟨f3, hr3, he3⟩, ⟨T4, hr4, he4⟩, ⟨f5, hr5, he5⟩, ⟨f6, hr6⟩, ⟨f7, hr7, he7⟩, ⟨R8, hr8, he8⟩, ⟨f9, hr9⟩, ⟨f10, hr10⟩, ⟨fG, hrG, heG⟩⟩ := id hL
  have hY := hI.1
  have hnv := hY.2.1
  have htc10 := hY.2.2.2.1
  intro post hp
  show Ev D 0 mX4_isMended 0 [some (.ref (a)), some (.int (nI (v))), some (.int (nI (w)))] [] h 0 0 post
  refine e_aload_n dX4_isMended_0 rfl ?_
  refine e_get dX4_isMended_1 fl_X4_34_4 hLo rfl ?_
  refine e_iload_n dX4_isMended_4 rfl ?_
  refine e_ild (v) ((mdB N v)) dX4_isMended_5 hr3 rfl (by omega) (by decide) (he3 _ (by omega)) ?_
  refine e_iload_n dX4_isMended_6 rfl ?_
  refine e_ishr dX4_isMended_7 ?_
  refine e_iconst (nI (1)) dX4_isMended_8 (by decide) ?_
  refine e_iand dX4_isMended_9 ?_
  refine e_if_eq 17 dX4_isMended_10 (by decide) (fun hcq10 => ?_) (fun hcq10 => ?_)
  · refine e_iconst (nI (0)) dX4_isMended_17 (by decide) ?_
    refine e_top (b2 (N (48 + 8 * v + w) = nI 1)) (by first | exact (b2_f ((mdB_t hw).mp hcq10)).symm | exact (b2_t (Decidable.of_not_not (fun zz => hcq10 ((mdB_t hw).mpr zz)))).symm) ?_
    exact e_zretB dX4_isMended_18 rfl (hp _ rfl)
  · refine e_iconst (nI (1)) dX4_isMended_13 (by decide) ?_
    refine e_goto 18 dX4_isMended_14 (by decide) ?_
    refine e_top (b2 (N (48 + 8 * v + w) = nI 1)) (by first | exact (b2_f ((mdB_t hw).mp hcq10)).symm | exact (b2_t (Decidable.of_not_not (fun zz => hcq10 ((mdB_t hw).mpr zz)))).symm) ?_
    exact e_zretB dX4_isMended_18 rfl (hp _ rfl)
set_option maxRecDepth 20000 in
theorem u_wayOf (D : En) {h : AH} {a : Nat} {N : Nat → Int32} (hL : LandU h a N) (hI : IN N) (v w : Nat) (hv : v < 8) (hw : w < 8) : Sp D 1 mX4_wayOf [.ref (a), .int (nI (v)), .int (nI (w))] h 0 0 (some (.int (wayR N v w))) (fun h' => h' = h) := by
  obtain ⟨hLo, ⟨f1, hr1, he1⟩, ⟨f2, hr2, he2⟩, ⟨f3, hr3, he3⟩, ⟨T4, hr4, he4⟩, ⟨f5, hr5, he5⟩, ⟨f6, hr6⟩, ⟨f7, hr7, he7⟩, ⟨R8, hr8, he8⟩, ⟨f9, hr9⟩, ⟨f10, hr10⟩, ⟨fG, hrG, heG⟩⟩ := id hL
  have hY := hI.1
  have hnv := hY.2.1
  have htc10 := hY.2.2.2.1
  intro post hp
  show Ev D 1 mX4_wayOf 0 [some (.ref (a)), some (.int (nI (v))), some (.int (nI (w))), none, none, none] [] h 0 0 post
  refine e_aload_n dX4_wayOf_0 rfl ?_
  refine e_get dX4_wayOf_1 fl_X4_27_4 hLo rfl ?_
  refine e_iload_n dX4_wayOf_4 rfl ?_
  refine e_ild (v) ((N (16 + 4 * v))) dX4_wayOf_5 hr1 rfl (by omega) (by decide) (he1 _ (by omega)) ?_
  refine e_bipush (nI (100)) dX4_wayOf_6 (by decide) ?_
  refine e_idiv dX4_wayOf_8 (by decide) ?_
  refine e_aload_n dX4_wayOf_9 rfl ?_
  refine e_get dX4_wayOf_10 fl_X4_27_4 hLo rfl ?_
  refine e_iload_n dX4_wayOf_13 rfl ?_
  refine e_ild (w) ((N (16 + 4 * w))) dX4_wayOf_14 hr1 rfl (by omega) (by decide) (he1 _ (by omega)) ?_
  refine e_bipush (nI (100)) dX4_wayOf_15 (by decide) ?_
  refine e_idiv dX4_wayOf_17 (by decide) ?_
  refine e_isub dX4_wayOf_18 ?_
  refine e_mabs dX4_wayOf_19 mw_X4_92 (by decide) (Nat.le_of_ble_eq_true rfl) ?_
  refine e_istore_n dX4_wayOf_22 (by decide) ?_
  refine e_aload_n dX4_wayOf_23 rfl ?_
  refine e_get dX4_wayOf_24 fl_X4_27_4 hLo rfl ?_
  refine e_iload_n dX4_wayOf_27 rfl ?_
  refine e_ild (v) ((N (16 + 4 * v))) dX4_wayOf_28 hr1 rfl (by omega) (by decide) (he1 _ (by omega)) ?_
  refine e_bipush (nI (100)) dX4_wayOf_29 (by decide) ?_
  refine e_irem dX4_wayOf_31 (by decide) ?_
  refine e_aload_n dX4_wayOf_32 rfl ?_
  refine e_get dX4_wayOf_33 fl_X4_27_4 hLo rfl ?_
  refine e_iload_n dX4_wayOf_36 rfl ?_
  refine e_ild (w) ((N (16 + 4 * w))) dX4_wayOf_37 hr1 rfl (by omega) (by decide) (he1 _ (by omega)) ?_
  refine e_bipush (nI (100)) dX4_wayOf_38 (by decide) ?_
  refine e_irem dX4_wayOf_40 (by decide) ?_
  refine e_isub dX4_wayOf_41 ?_
  refine e_mabs dX4_wayOf_42 mw_X4_92 (by decide) (Nat.le_of_ble_eq_true rfl) ?_
  refine e_istore dX4_wayOf_45 (by decide) ?_
  refine e_iload_n dX4_wayOf_47 rfl ?_
  refine e_iload dX4_wayOf_48 rfl ?_
  refine e_iadd dX4_wayOf_50 ?_
  refine e_aload_n dX4_wayOf_51 rfl ?_
  refine e_get dX4_wayOf_52 fl_X4_15_4 hLo rfl ?_
  refine e_imul dX4_wayOf_55 ?_
  refine e_istore dX4_wayOf_56 (by decide) ?_
  refine e_aload_n dX4_wayOf_58 rfl ?_
  refine e_iload_n dX4_wayOf_59 rfl ?_
  refine e_iload_n dX4_wayOf_60 rfl ?_
  refine c_V2iR (N := mX4_isMended) dX4_wayOf_61 lv_X4_98 mo_X4_isMended hL.cn (Nat.le_of_ble_eq_true rfl) (Nat.le_of_ble_eq_true rfl) (by decide) (u_isMended D hL hI (v) (w) (by omega) (by omega)) ?_
  refine e_if_eqB 74 dX4_wayOf_64 (by decide) (fun hcq64 => ?_) (fun hcq64 => ?_)
  · refine e_iload dX4_wayOf_74 rfl ?_
    refine e_top (wayR N v w) (by unfold wayR; first | (rw [if_pos hcq64]; rfl) | (rw [if_neg hcq64]; rfl)) ?_
    exact e_iret dX4_wayOf_76 rfl (hp _ rfl)
  · refine e_iload dX4_wayOf_67 rfl ?_
    refine e_iconst (nI (2)) dX4_wayOf_69 (by decide) ?_
    refine e_idiv dX4_wayOf_70 (by decide) ?_
    refine e_goto 76 dX4_wayOf_71 (by decide) ?_
    refine e_top (wayR N v w) (by unfold wayR; first | (rw [if_pos hcq64]; rfl) | (rw [if_neg hcq64]; rfl)) ?_
    exact e_iret dX4_wayOf_76 rfl (hp _ rfl)
set_option maxRecDepth 20000 in
theorem ul_served (D : En) {h : AH} {a : Nat} {N : Nat → Int32} (hL : LandU h a N) (hI : IN N) {post : Option Value → AH → Prop} (v : Nat) (hv : v < 8) (x : Int32) (hp : ∀ h', h' = h → post (some (.int (orF (svF N v x) (nvN N)))) h') : ∀ (j : Nat) (w : Nat) (ac : Int32), (w + j = nvN N) → (ac = orF (svF N v x) w) → Ev D 2 mX4_servedFrom 5 [some (.ref (a)), some (.int (nI (v))), some (.int (x)), some (.int (ac)), some (.int (nI (w)))] [] h 0 0 post := by
  obtain ⟨hLo, ⟨f1, hr1, he1⟩, ⟨f2, hr2, he2⟩, ⟨f3, hr3, he3⟩, ⟨T4, hr4, he4⟩, ⟨f5, hr5, he5⟩, ⟨f6, hr6⟩, ⟨f7, hr7, he7⟩, ⟨R8, hr8, he8⟩, ⟨f9, hr9⟩, ⟨f10, hr10⟩, ⟨fG, hrG, heG⟩⟩ := id hL
  have hY := hI.1
  have hnv := hY.2.1
  have htc10 := hY.2.2.2.1
  intro j
  induction j with
  | zero =>
    intro w ac hm ha
    refine e_iload dX4_servedFrom_5 rfl ?_
    refine e_aload_n dX4_servedFrom_7 rfl ?_
    refine e_get dX4_servedFrom_8 fl_X4_18_4 hLo rfl ?_
    refine e_top (nI (nvN N)) hY.1 ?_
    refine e_icmp_geN 38 dX4_servedFrom_11 (by decide) (by omega) (by omega) (fun hcq11 => ?_) (fun hcq11 => absurd hcq11 (by omega))
    refine e_iload_n dX4_servedFrom_38 rfl ?_
    rw [show w = nvN N by omega] at ha
    exact e_iret dX4_servedFrom_39 rfl (by rw [ha]; exact hp _ rfl)
  | succ j ih =>
    intro w ac hm ha
    refine e_iload dX4_servedFrom_5 rfl ?_
    refine e_aload_n dX4_servedFrom_7 rfl ?_
    refine e_get dX4_servedFrom_8 fl_X4_18_4 hLo rfl ?_
    refine e_top (nI (nvN N)) hY.1 ?_
    refine e_icmp_geN 38 dX4_servedFrom_11 (by decide) (by omega) (by omega) (fun hcq11 => absurd hcq11 (by omega)) (fun hcq11 => ?_)
    refine e_aload_n dX4_servedFrom_14 rfl ?_
    refine e_iload_n dX4_servedFrom_15 rfl ?_
    refine e_iload dX4_servedFrom_16 rfl ?_
    refine c_V2iR (N := mX4_wayOf) dX4_servedFrom_18 lv_X4_102 mo_X4_wayOf hL.cn (Nat.le_of_ble_eq_true rfl) (Nat.le_of_ble_eq_true rfl) (by decide) (u_wayOf D hL hI (v) (w) (by omega) (by omega)) ?_
    refine e_iload_n dX4_servedFrom_21 rfl ?_
    refine e_icmp_gt 32 dX4_servedFrom_22 (by decide) (fun hcq22 => ?_) (fun hcq22 => ?_)
    · refine e_iincN (w + 1) dX4_servedFrom_32 rfl (by decide) (nI_add _ _) ?_
      refine e_goto 5 dX4_servedFrom_35 (by decide) ?_
      exact ih (w + 1) _ (by omega) (by rw [orF, ← ha, svF]; first | (rw [if_pos (Int32.not_lt.mp hcq22)]; done) | (rw [if_neg (Int32.not_le.mpr hcq22), or_0]; done))
    · refine e_iload_n dX4_servedFrom_25 rfl ?_
      refine e_iconst (nI (1)) dX4_servedFrom_26 (by decide) ?_
      refine e_iload dX4_servedFrom_27 rfl ?_
      refine e_ishl dX4_servedFrom_29 ?_
      refine e_ior dX4_servedFrom_30 ?_
      refine e_istore_n dX4_servedFrom_31 (by decide) ?_
      refine e_iincN (w + 1) dX4_servedFrom_32 rfl (by decide) (nI_add _ _) ?_
      refine e_goto 5 dX4_servedFrom_35 (by decide) ?_
      exact ih (w + 1) _ (by omega) (by rw [orF, ← ha, svF]; first | (rw [if_pos (Int32.not_lt.mp hcq22)]; done) | (rw [if_neg (Int32.not_le.mpr hcq22), or_0]; done))
set_option maxRecDepth 20000 in
theorem u_servedFrom (D : En) {h : AH} {a : Nat} {N : Nat → Int32} (hL : LandU h a N) (hI : IN N) (v : Nat) (hv : v < 8) (x : Int32) : Sp D 2 mX4_servedFrom [.ref (a), .int (nI (v)), .int (x)] h 0 0 (some (.int (orF (svF N v x) (nvN N)))) (fun h' => h' = h) := by
  obtain ⟨hLo, ⟨f1, hr1, he1⟩, ⟨f2, hr2, he2⟩, ⟨f3, hr3, he3⟩, ⟨T4, hr4, he4⟩, ⟨f5, hr5, he5⟩, ⟨f6, hr6⟩, ⟨f7, hr7, he7⟩, ⟨R8, hr8, he8⟩, ⟨f9, hr9⟩, ⟨f10, hr10⟩, ⟨fG, hrG, heG⟩⟩ := id hL
  have hY := hI.1
  have hnv := hY.2.1
  have htc10 := hY.2.2.2.1
  intro post hp
  show Ev D 2 mX4_servedFrom 0 [some (.ref (a)), some (.int (nI (v))), some (.int (x)), none, none] [] h 0 0 post
  refine e_iconst (nI (0)) dX4_servedFrom_0 (by decide) ?_
  refine e_istore_n dX4_servedFrom_1 (by decide) ?_
  refine e_iconst (nI (0)) dX4_servedFrom_2 (by decide) ?_
  refine e_istore dX4_servedFrom_3 (by decide) ?_
  exact ul_served D hL hI v hv x hp (nvN N) 0 _ (by omega) rfl
set_option maxRecDepth 20000 in
theorem kl_survey (D : En) {h0 : AH} {a : Nat} {N : Nat → Int32} (hI : IN N) (ha : a + 11 < 101) {post : Option Value → AH → Prop} (hp : ∀ h', LB h' a N → FA a h0 h' → h'[a + 4]? = h0[a + 4]? → post none h') : ∀ (j i : Nat) (h : AH) (f : Nat → Int32), i + j = tcN N → LandU h a N ∧ RB h → FA a h0 h → h[a + 4]? = h0[a + 4]? → Row0 h (a + 6) 10 f → (∀ t, t < i → f t = servedR N (nvN N) t) → Ev D 4 mX4_survey 2 [some (.ref a), some (.int (nI i))] [] h 0 0 post := by
  have hY := hI.1
  have htc10 := hY.2.2.2.1
  intro j
  induction j with
  | zero =>
    intro i h f hm hL hF h4 hr6 hE
    obtain ⟨hLo, -, -, -, ⟨T4, hr4, he4⟩, -, -, -, -, -, -⟩ := id hL.1
    refine e_iload_n dX4_survey_2 rfl ?_
    refine e_aload_n dX4_survey_3 rfl ?_
    refine e_get dX4_survey_4 fl_X4_21_4 hLo rfl ?_
    refine e_top (nI (tcN N)) hY.2.2.1 ?_
    refine e_icmp_geN 44 dX4_survey_7 (by decide) (by omega) (by omega) (fun hc => ?_) (fun hc => absurd hc (by omega))
    exact e_vret dX4_survey_44 rfl (hp h ⟨hL.1.at_ hr6 (fun t ht => hE t (by omega)), hL.2, ha⟩ hF h4)
  | succ j ih =>
    intro i h f hm hL hF h4 hr6 hE
    obtain ⟨hLo, -, -, -, ⟨T4, hr4, he4⟩, -, -, -, -, -, -⟩ := id hL.1
    refine e_iload_n dX4_survey_2 rfl ?_
    refine e_aload_n dX4_survey_3 rfl ?_
    refine e_get dX4_survey_4 fl_X4_21_4 hLo rfl ?_
    refine e_top (nI (tcN N)) hY.2.2.1 ?_
    refine e_icmp_geN 44 dX4_survey_7 (by decide) (by omega) (by omega) (fun hc => absurd hc (by omega)) (fun hc => ?_)
    obtain ⟨b, hT, hb⟩ := he4 i (by omega)
    have hW := hY.2.2.2.2.1 i (by omega)
    refine e_aload_n dX4_survey_10 rfl ?_
    refine e_get dX4_survey_11 fl_X4_46_4 hLo rfl ?_
    refine e_iload_n dX4_survey_14 rfl ?_
    refine e_aload_n dX4_survey_15 rfl ?_
    refine e_aload_n dX4_survey_16 rfl ?_
    refine e_get dX4_survey_17 fl_X4_39_4 hLo rfl ?_
    refine e_iload_n dX4_survey_20 rfl ?_
    refine e_ald (v := some b) (i) dX4_survey_21 hr4 (Or.inl rfl) rfl (by omega) (by decide) hT ?_
    refine tf_get1 dX4_survey_22 tl_X4_106 hb ?_
    refine e_top (nI (atN N i)) hW.2.2.1 ?_
    refine e_aload_n dX4_survey_25 rfl ?_
    refine e_get dX4_survey_26 fl_X4_39_4 hLo rfl ?_
    refine e_iload_n dX4_survey_29 rfl ?_
    refine e_ald (v := some b) (i) dX4_survey_30 hr4 (Or.inl rfl) rfl (by omega) (by decide) hT ?_
    refine vc_X4_109 rfl dX4_survey_31 hb hW.2.1 (Nat.le_of_ble_eq_true rfl) (by decide) ?_
    refine c_V2iR (N := mX4_servedFrom) dX4_survey_34 lv_X4_112 mo_X4_servedFrom hL.1.cn (Nat.le_of_ble_eq_true rfl) (Nat.le_of_ble_eq_true rfl) (by decide) (u_servedFrom D hL.1 hI (atN N i) hW.2.2.2 _) ?_
    refine e_ist i dX4_survey_37 hr6 rfl (by omega) (by decide) ?_
    refine e_iincN (i + 1) dX4_survey_38 rfl (by decide) (nI_add _ _) ?_
    refine e_goto 2 dX4_survey_41 (by decide) ?_
    refine ih (i + 1) _ _ (by omega) ⟨hL.1.w6 ha _, hL.2.set (by omega) (fun fs e => by cases e)⟩ ⟨List.length_set.trans hF.1, fun x hx => getset (hF.2 x hx) (by omega)⟩ (getset h4 (by omega)) (getself hr6) (fun t ht => ?_)
    by_cases e : t = i
    · rw [e, pk_us]; rfl
    · rw [pk_un e]; exact hE t (by omega)
theorem k_survey (D : En) {h : AH} {a : Nat} {N : Nat → Int32} (hL : LandU h a N) (hB : RB h) (hI : IN N) (ha : a + 11 < 101) : Sp D 4 mX4_survey [.ref a] h 0 0 none (fun h' => LB h' a N ∧ FA a h h' ∧ h'[a + 4]? = h[a + 4]?) := by
  obtain ⟨f, hr6⟩ := hL.2.2.2.2.2.2.1
  intro post hp
  show Ev D 4 mX4_survey 0 [some (.ref a), none] [] h 0 0 post
  refine e_iconst (nI (0)) dX4_survey_0 (by decide) ?_
  refine e_istore_n dX4_survey_1 (by decide) ?_
  exact kl_survey D (h0 := h) hI ha (fun h' a1 a2 a3 => hp h' ⟨a1, a2, a3⟩) (tcN N) 0 h f (by omega) ⟨hL, hB⟩ ⟨rfl, fun _ _ => rfl⟩ rfl hr6 (fun t ht => absurd ht (Nat.not_lt_zero t))
