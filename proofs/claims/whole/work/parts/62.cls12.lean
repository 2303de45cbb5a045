theorem updupd {N : Nat → Int32} {k : Nat} {x y : Int32} : upd (upd N k x) k y = upd N k y := by
  funext j
  by_cases e : j = k
  · rw [e, pk_us, pk_us]
  · rw [pk_un e, pk_un e, pk_un e]
theorem kp_op {N : Nat → Int32} {t : Nat} (h : tcN N ≤ 10) (ht : t < tcN N) : kpK N (opB N) t = if N (112 + 7 * t + 5) = nI 1 then N (112 + 7 * t + 2) else nI 0 := by
  unfold kpK
  by_cases e : N (112 + 7 * t + 5) = nI 1
  · rw [if_pos e, if_pos (Decidable.of_not_not (fun z => (opB_t h ht).mp ((tb01 (by omega)).mpr z) e))]
  · rw [if_neg e, if_neg ((tb01 (by omega)).mp ((opB_t h ht).mpr e))]
theorem cst_al (a b s k : Int32) : a + (b - s) - k = a + (b - (s + k)) := by
  rw [Int32.sub_eq_add_neg, Int32.sub_eq_add_neg, Int32.sub_eq_add_neg, Int32.neg_add, Int32.sub_eq_add_neg, Int32.add_assoc, Int32.add_assoc]
theorem cst_eq {N : Nat → Int32} (h : tcN N ≤ 10) : ∀ t, t ≤ tcN N → cstW N t = upd N 12 (N 12 + (N 11 - sumF (kpK N (opB N)) t)) := by
  intro t
  induction t with
  | zero =>
    intro _
    rw [cstW, sumF, Int32.sub_zero]
  | succ t ih =>
    intro ht
    rw [cstW, ih (by omega), updupd, pk_us, pk_un (by omega), pk_un (by omega), sumF, kp_op h (by omega), cst_al]
theorem JW.tr {A B C : Nat → Int32} (x : JW A B) (y : JW B C) : JW A C := ⟨x.1, x.2.1.trans y.2.1, x.2.2.1.trans y.2.2.1, x.2.2.2.1.trans y.2.2.2.1, x.2.2.2.2.1.trans y.2.2.2.2.1, fun j hj => (x.2.2.2.2.2 j hj).trans (y.2.2.2.2.2 j hj)⟩
set_option maxRecDepth 20000 in
theorem k_year (D : En) {h : AH} {a : Nat} {N : Nat → Int32} (hL : LB h a N) (hI : IN N) : Sp D 6 mX4_passYear [.ref a] h 0 0 none (fun h' => LB h' a (yearR G0 N (nvN N) (tcN N) (txN N)) ∧ IN (yearR G0 N (nvN N) (tcN N) (txN N)) ∧ FY a h h' ∧ JW (yearR G0 N (nvN N) (tcN N) (txN N)) N) := by
  have ha := hL.2.2
  intro post hp
  show Ev D 6 mX4_passYear 0 [some (.ref a)] [] h 0 0 post
  refine e_aload_n dX4_passYear_0 rfl ?_
  refine c_V0v (nc := 0) (ns := 0) (mc := 0) (ms := 0) (N := mX4_shutByRule) dX4_passYear_1 lv_X4_146 mo_X4_shutByRule hL.1.cn (Nat.le_of_ble_eq_true rfl) (Nat.le_of_ble_eq_true rfl) (by decide) (k_shut D hL hI) (fun h hP => ?_)
  obtain ⟨hL1, hI1, hF, hJ⟩ := hP
  obtain ⟨S, hS⟩ : ∃ z, z = shW N (nvN N) (txN N 0) (tcN N) := ⟨_, rfl⟩
  rw [← hS] at hL1 hI1 hJ
  have hL := hL1
  refine e_aload_n dX4_passYear_4 rfl ?_
  refine c_V0v (nc := 0) (ns := 0) (mc := 0) (ms := 0) (N := mX4_weighComforts) dX4_passYear_5 lv_X4_149 mo_X4_weighComforts hL.1.cn (Nat.le_of_ble_eq_true rfl) (Nat.le_of_ble_eq_true rfl) (by decide) (k_weigh D hL.1 hI1 hL.2.2) (fun h hP => ?_)
  obtain ⟨C9, hh, hC9⟩ := hP
  have hLp := hL.set (c := .inl (0, 8, .inl C9)) (j := a + 10) (by omega) (fun fs e => by cases e) (hL.1.w9 hI1 hL.2.2 C9)
  obtain ⟨-, -, -, -, -, -, -, -, -, ⟨f9, hr9⟩, -⟩ := id hL.1
  have hCr : Row0 h (a + 10) 8 C9 := by rw [hh]; exact getself hr9
  have hFp := hF.set (.inl (0, 8, .inl C9)) (show a ≤ a + 10 ∧ a + 10 ≤ a + 11 by omega)
  rw [← hh] at hLp hFp
  have hF := hFp
  have hL := hLp
  refine e_aload_n dX4_passYear_8 rfl ?_
  refine c_V0v (nc := 0) (ns := 0) (mc := 0) (ms := 0) (N := mX4_letGo) dX4_passYear_9 lv_X4_152 mo_X4_letGo hL.1.cn (Nat.le_of_ble_eq_true rfl) (Nat.le_of_ble_eq_true rfl) (by decide) (k_go D hL hI1 hCr hC9) (fun h hP => ?_)
  obtain ⟨hL2, hI2, hF2, hJ2, hCr⟩ := hP
  have eC : cfN S = comfR G0 S (nvN N) (tcN N) := by rw [cfN, hJ.nv, hJ.tc]
  obtain ⟨C, hC⟩ : ∃ z, z = comfR G0 S (nvN N) (tcN N) := ⟨_, rfl⟩
  rw [eC, ← hC] at hL2 hI2 hJ2 hC9
  rw [hJ.tx, hJ.nv] at hL2 hI2 hJ2
  obtain ⟨G, hG⟩ : ∃ z, z = goR (txN N 1) C S (nvN N) := ⟨_, rfl⟩
  rw [← hG] at hL2 hI2 hJ2
  have hF := hF.trans hL.2.1 hL.2.2 hF2
  have hL := hL2
  have hJG : JW G N := ⟨hJ2.1, hJ2.2.1.trans hJ.2.1, hJ2.2.2.1.trans hJ.2.2.1, hJ2.2.2.2.1.trans hJ.2.2.2.1, hJ2.2.2.2.2.1.trans hJ.2.2.2.2.1, fun j hj => (hJ2.2.2.2.2.2 j hj).trans (hJ.2.2.2.2.2 j hj)⟩
  refine e_aload_n dX4_passYear_12 rfl ?_
  refine c_V0v (nc := 0) (ns := 0) (mc := 0) (ms := 0) (N := mX4_letCome) dX4_passYear_13 lv_X4_155 mo_X4_letCome hL.1.cn (Nat.le_of_ble_eq_true rfl) (Nat.le_of_ble_eq_true rfl) (by decide) (k_come D hL hI2 hCr (C := C) (by rw [hJG.nv, ← hJ.nv]; exact hC9)) (fun h hP => ?_)
  obtain ⟨hL3, hI3, hF3, hJ3⟩ := hP
  rw [hJG.tx, hJG.nv] at hL3 hI3 hJ3
  obtain ⟨O, hO⟩ : ∃ z, z = coW (txN N 2) C G (nvN N) := ⟨_, rfl⟩
  rw [← hO] at hL3 hI3 hJ3
  have hF := hF.trans hL.2.1 hL.2.2 hF3
  have hL := hL3
  have hJO : JW O N := hJ3.tr hJG
  refine e_aload_n dX4_passYear_16 rfl ?_
  refine c_V0v (nc := 0) (ns := 0) (mc := 0) (ms := 0) (N := mX4_letAge) dX4_passYear_17 lv_X4_158 mo_X4_letAge hL.1.cn (Nat.le_of_ble_eq_true rfl) (Nat.le_of_ble_eq_true rfl) (by decide) (k_age D hL hI3) (fun h hP => ?_)
  obtain ⟨hL4, hI4, hF4, hJ4⟩ := hP
  rw [hJO.nv] at hL4 hI4 hJ4
  obtain ⟨V, hV⟩ : ∃ z, z = lvs O (nvN N) := ⟨_, rfl⟩
  rw [← hV] at hL4 hI4 hJ4
  have hF := hF.trans hL.2.1 hL.2.2 hF4
  have hL := hL4
  have hJV : JW V N := hJ4.tr hJO
  obtain ⟨hLo, -, -, -, -, -, -, ⟨f7, hr7, he7⟩, -, -, -⟩ := id hL.1
  have ha := hL.2.2
  refine e_aload_n dX4_passYear_20 rfl ?_
  refine e_get dX4_passYear_21 fl_X4_60_4 hLo rfl ?_
  refine e_iconst (nI 5) dX4_passYear_24 (by decide) ?_
  refine e_dup2 dX4_passYear_25 rfl rfl ?_
  refine e_ild 5 (V 12) dX4_passYear_26 hr7 rfl (by decide) (by decide) (he7 5 (by decide)) ?_
  refine e_aload_n dX4_passYear_27 rfl ?_
  refine e_get dX4_passYear_28 fl_X4_60_4 hLo rfl ?_
  refine e_iconst (nI 4) dX4_passYear_31 (by decide) ?_
  refine e_ild 4 (V 11) dX4_passYear_32 hr7 rfl (by decide) (by decide) (he7 4 (by decide)) ?_
  refine e_aload_n dX4_passYear_33 rfl ?_
  refine e_aload_n dX4_passYear_34 rfl ?_
  refine e_get dX4_passYear_35 fl_X4_24_4 hLo rfl ?_
  refine c_V1iR (N := mX4_costOf) dX4_passYear_38 lv_X4_161 mo_X4_costOf hL.1.cn (Nat.le_of_ble_eq_true rfl) (Nat.le_of_ble_eq_true rfl) (by decide) (k_costOf D hL.1 hI4 (opB V)) ?_
  refine e_isub dX4_passYear_41 ?_
  refine e_iadd dX4_passYear_42 ?_
  refine e_ist 5 dX4_passYear_43 hr7 rfl (by decide) (by decide) ?_
  have eX : upd V 12 (V 12 + (V 11 - sumF (kpK V (opB V)) (tcN V))) = cstW V (tcN N) := by rw [← hJV.tc]; exact (cst_eq hI4.1.2.2.2.1 _ (Nat.le_refl _)).symm
  have hL5 := hL.set (by omega) (fun fs e => by cases e) (hL.1.rt hI4 hL.2.2 hr7 (k := 5) (by decide) (V 12 + (V 11 - sumF (kpK V (opB V)) (tcN V))))
  have hI5 : IN (cstW V (tcN N)) := by rw [← eX]; exact IN_up hI4 FI_12 (by omega) (PW_other hI4.2.2.2.1 (by omega))
  have hJ5 : JW (cstW V (tcN N)) N := cstW_JW hJV _
  rw [show 7 + 5 = 12 from rfl, eX] at hL5
  have hFp := hF.set (.inl (0, 6, .inl (upd f7 5 (V 12 + (V 11 - sumF (kpK V (opB V)) (tcN V)))))) (show a ≤ a + 8 ∧ a + 8 ≤ a + 11 by omega)
  obtain ⟨h, hh9⟩ : ∃ z, z = h.set (a + 8) (.inl (0, 6, .inl (upd f7 5 (V 12 + (V 11 - sumF (kpK V (opB V)) (tcN V)))))) := ⟨_, rfl⟩
  rw [← hh9] at hL5 hFp ⊢
  clear hh9
  have hL := hL5
  have hF := hFp
  obtain ⟨hLo, -, -, -, -, -, -, -, -, -, -⟩ := id hL.1
  refine e_aload_n dX4_passYear_44 rfl ?_
  refine e_dup dX4_passYear_45 rfl ?_
  refine e_get dX4_passYear_46 fl_X4_9_4 hLo rfl ?_
  refine e_iconst (nI 1) dX4_passYear_49 (by decide) ?_
  refine e_iadd dX4_passYear_50 ?_
  refine e_put dX4_passYear_51 fl_X4_9_4 ft_4 (fun q hq => Or.inl (by cases hq; rfl)) hLo (by show _ < 16; decide) rfl rfl ?_
  have hL6 := hL.set (j := a) (by omega) (fun fs e => by cases e) (hL.1.now hI5 hL.2.2 (cstW V (tcN N) 0 + nI 1))
  have hI6 : IN (upd (cstW V (tcN N)) 0 (cstW V (tcN N) 0 + nI 1)) := IN_up hI5 FI_0 (by omega) (PW_other hI5.2.2.2.1 (by omega))
  have hJ6 := hJ5.up (k := 0) (x := cstW V (tcN N) 0 + nI 1) (by omega) hI6.2.2.2.1
  have eY : upd (cstW V (tcN N)) 0 (cstW V (tcN N) 0 + nI 1) = yearR G0 N (nvN N) (tcN N) (txN N) := by rw [yearR, yeR, hV, hO, hG, hC, hS]
  rw [eY] at hL6 hI6 hJ6
  exact e_vret dX4_passYear_54 rfl (hp _ ⟨hL6, hI6, hF.set _ (show a ≤ a ∧ a ≤ a + 11 by omega), hJ6⟩)
set_option maxRecDepth 20000 in
theorem kl_years (D : En) {h0 : AH} {a : Nat} {N : Nat → Int32} (hIN : IN N) (n : Nat) (hn : n < 2 ^ 31) {post : Option Value → AH → Prop} (hp : ∀ h', LB h' a (yrX N N n) → IN (yrX N N n) → FY a h0 h' → JW (yrX N N n) N → post none h') : ∀ (j : Nat) (k : Nat) (h : AH), k + j = n → LB h a (yrX N N k) → IN (yrX N N k) → FY a h0 h → JW (yrX N N k) N → Ev D 7 mX4_passYears 2 [some (.ref a), some (.int (nI n)), some (.int (nI k))] [] h 0 0 post := by
  intro j
  induction j with
  | zero =>
    intro k h hm hL hI hF hJ
    obtain rfl : n = k := by omega
    refine e_iload_n dX4_passYears_2 rfl ?_
    refine e_iload_n dX4_passYears_3 rfl ?_
    refine e_icmp_geN 17 dX4_passYears_4 (by decide) (by omega) (by omega) (fun hc => ?_) (fun hc => absurd hc (by omega))
    exact e_vret dX4_passYears_17 rfl (hp h hL hI hF hJ)
  | succ j ih =>
    intro k h hm hL hI hF hJ
    refine e_iload_n dX4_passYears_2 rfl ?_
    refine e_iload_n dX4_passYears_3 rfl ?_
    refine e_icmp_geN 17 dX4_passYears_4 (by decide) (by omega) (by omega) (fun hc => absurd hc (by omega)) (fun hc => ?_)
    refine e_aload_n dX4_passYears_7 rfl ?_
    refine c_V0v (nc := 0) (ns := 0) (mc := 0) (ms := 0) (N := mX4_passYear) dX4_passYears_8 lv_X4_143 mo_X4_passYear hL.1.cn (Nat.le_of_ble_eq_true rfl) (Nat.le_of_ble_eq_true rfl) (by decide) (k_year D hL hI) (fun h' hP => ?_)
    obtain ⟨hL2, hI2, hF2, hJ2⟩ := hP
    rw [hJ.nv, hJ.tc, hJ.tx] at hL2 hI2 hJ2
    refine e_iincN (k + 1) dX4_passYears_11 rfl (by decide) (nI_add _ _) ?_
    refine e_goto 2 dX4_passYears_14 (by decide) ?_
    exact ih (k + 1) h' (by omega) hL2 hI2 (hF.trans hL.2.1 hL.2.2 hF2) (hJ2.tr hJ)
theorem k_years (D : En) {h : AH} {a : Nat} {N : Nat → Int32} (hL : LB h a N) (hI : IN N) (n : Nat) (hn : n < 2 ^ 31) : Sp D 7 mX4_passYears [.ref a, .int (nI n)] h 0 0 none (fun h' => LB h' a (yrX N N n) ∧ IN (yrX N N n) ∧ FY a h h' ∧ JW (yrX N N n) N) := by
  intro post hp
  show Ev D 7 mX4_passYears 0 [some (.ref a), some (.int (nI n)), none] [] h 0 0 post
  refine e_iconst (nI (0)) dX4_passYears_0 (by decide) ?_
  refine e_istore_n dX4_passYears_1 (by decide) ?_
  exact kl_years D (h0 := h) hI n hn (fun h' a1 a2 a3 a4 => hp h' ⟨a1, a2, a3, a4⟩) n 0 h (by omega) hL hI FY.rf (JW.rf hI.2.2.2.1)
