set_option maxRecDepth 20000 in
theorem lp_broke (D : En) {s : SS} {τ : Nat → Int32} {h00 : AH} (hI : INV s) {post : Option Value → AH → Prop} (n : Int32) (hn_n : n = nI (tn n)) (hle : tn n ≤ 40) (kk : ∀ k h σ, k ≤ 40 → RefAt h (yrX (sN s) (sN s) k) σ τ → FrR h00 h → RS σ τ s → σ 2 = sN s → fsP (brP (sN s)) (tn n) 0 = k → Ev D 8 mX12_broke 52 [some (.ref 82), some (.int n), some (.int (nI k)), none] [] h 0 0 post) : ∀ (j : Nat) (k : Nat) (h : AH) (σ : Nat → Nat → Int32), (k + j = tn n) → (RefAt h (yrX (sN s) (sN s) k) σ τ) → (FrR h00 h) → (RS σ τ s) → (σ 2 = sN s) → (fsP (brP (sN s)) (tn n) 0 = fsP (brP (sN s)) j k) → Ev D 8 mX12_broke 27 [some (.ref (82)), some (.int (n)), some (.int (nI (k))), none] [] h 0 0 post := by
  intro j
  induction j with
  | zero =>
    intro k h σ hm hR hF hS hA2 hfs
    have hY0 := hI.1.1
    have hY : YW (yrX (sN s) (sN s) k) (nvN (sN s)) (tcN (sN s)) (txN (sN s)) := yrsR_YW G0 hY0 k
    refine e_iload_n dX12_broke_27 rfl ?_
    refine e_iload_n dX12_broke_28 rfl ?_
    refine e_top (nI (tn n)) (hn_n) ?_
    refine e_icmp_geN 52 dX12_broke_29 (by decide) (by omega) (by omega) (fun hcq29 => ?_) (fun hcq29 => absurd hcq29 (by omega))
    exact kk k h σ (by omega) hR hF hS hA2 hfs
  | succ j ih =>
    intro k h σ hm hR hF hS hA2 hfs
    have hY0 := hI.1.1
    have hY : YW (yrX (sN s) (sN s) k) (nvN (sN s)) (tcN (sN s)) (txN (sN s)) := yrsR_YW G0 hY0 k
    refine e_iload_n dX12_broke_27 rfl ?_
    refine e_iload_n dX12_broke_28 rfl ?_
    refine e_top (nI (tn n)) (hn_n) ?_
    refine e_icmp_geN 52 dX12_broke_29 (by decide) (by omega) (by omega) (fun hcq29 => absurd hcq29 (by omega)) (fun hcq29 => ?_)
    refine e_aload_n dX12_broke_32 rfl ?_
    refine e_get dX12_broke_33 fl_X12_9_12 hR.1 rfl ?_
    refine e_bipush (nI (12)) dX12_broke_36 (by decide) ?_
    refine e_ild (12) (((yrX (sN s) (sN s) k) (12))) dX12_broke_38 hR.2.1 rfl (by omega) (by decide) rfl ?_
    refine e_if_lt 52 dX12_broke_39 (by decide) (fun hcq39 => ?_) (fun hcq39 => ?_)
    · exact kk k h σ (by omega) hR hF hS hA2 (by rw [hfs, fsP, if_pos (show brP (sN s) k = true from decide_eq_true (Int32.not_le.mpr hcq39))])
    · refine e_aload_n dX12_broke_42 rfl ?_
      refine c_V0v (nc := 0) (ns := 0) (mc := 0) (ms := 0) (N := mX12_year) dX12_broke_43 lv_X12_271 mo_X12_year hR.cn (Nat.le_of_ble_eq_true rfl) (Nat.le_of_ble_eq_true rfl) (by decide) (s_year D hR hY) (fun h hP => ?_)
      have hG9 := hS.2.1.1
      obtain ⟨σ, hR, hE1, hF1⟩ := hP
      have hF := hF.trans hF1
      rw [hG9] at hR
      have hR : RefAt h (yrX (sN s) (sN s) (k + 1)) σ τ := hR
      have hA2 := (hE1 2 (by decide) (by decide) (by decide)).trans hA2
      have hS := hS.to (fun i hi => hE1 i hi.2.1 hi.2.2.2.1 hi.2.2.2.2.1) rfl rfl
      have hY : YW (yrX (sN s) (sN s) (k + 1)) (nvN (sN s)) (tcN (sN s)) (txN (sN s)) := yrsR_YW G0 hY0 _
      refine e_iincN (k + 1) dX12_broke_46 rfl (by decide) (nI_add _ _) ?_
      refine e_goto 27 dX12_broke_49 (by decide) ?_
      exact ih (k + 1) h σ (by omega) hR hF hS hA2 (by rw [hfs, fsP, if_neg (by rw [show brP (sN s) k = false from decide_eq_false (fun zz => zz (Int32.not_lt.mp hcq39))]; decide)])
set_option maxRecDepth 20000 in
theorem rp_broke (D : En) {h : AH} {s : SS} (hI : INV s) (hRS : RefS h s) (n : Int32) : Sp D 8 mX12_broke [.ref (82), .int (n)] h 0 0 (some (.int (f_broke s n).1)) (fun h' => RefS h' (f_broke s n).2 ∧ FrR h h') := by
  obtain ⟨σ, τ, hR, hS⟩ := hRS
  have hY := hI.1.1
  have hnv := hY.2.1
  have htc10 := hY.2.2.2.1
  obtain ⟨h00, hh00⟩ : ∃ z, z = h := ⟨_, rfl⟩
  have hF : FrR h00 h := by rw [hh00]; exact FrR.rf
  intro post hp
  rw [← hh00] at hp
  show Ev D 8 mX12_broke 0 [some (.ref (82)), some (.int (n)), none, none] [] h 0 0 post
  refine e_iload_n dX12_broke_0 rfl ?_
  refine c_S1iR (N := mX12_isAhead) dX12_broke_1 ls_X12_281 mo_X12_isAhead  (Nat.le_of_ble_eq_true rfl) (Nat.le_of_ble_eq_true rfl) (by decide) (s_isAhead D ((n))) ?_
  refine e_if_neB 14 dX12_broke_4 (by decide) (fun hcq4 => ?_) (fun hcq4 => ?_)
  · obtain ⟨hn_n, hg_n, hl_n⟩ := wiN hcq4 (by decide) (by decide)
    refine e_aload_n dX12_broke_14 rfl ?_
    refine e_get dX12_broke_15 fl_X12_9_12 hR.1 rfl ?_
    refine e_aload_n dX12_broke_18 rfl ?_
    refine e_get dX12_broke_19 fl_X12_16_12 hR.1 rfl ?_
    refine c_S2v (nc := 0) (ns := 0) (mc := 0) (ms := 0) (N := mX12_copy) dX12_broke_22 ls_X12_277 mo_X12_copy  (Nat.le_of_ble_eq_true rfl) (Nat.le_of_ble_eq_true rfl) (by decide) (s_copyNA D hR) (fun h hP => ?_)
    obtain ⟨hR, hF1⟩ := hP
    have hF := hF.trans hF1
    obtain ⟨σ, hR, hA2, hS⟩ : ∃ z, RefAt h (sN s) z τ ∧ z 2 = sN s ∧ RS z τ s := ⟨_, hR, va_upS _ _ _, hS.to (fun i hi => va_upN _ _ hi.1) rfl rfl⟩
    refine e_iconst (nI (0)) dX12_broke_25 (by decide) ?_
    refine e_istore_n dX12_broke_26 (by decide) ?_
    refine lp_broke D hI n hn_n (by omega) (fun k h σ hk40 hR hF hS hA2 hfs => ?_) (tn n) 0 h σ (by omega) hR hF hS hA2 rfl
    have hY : YW (yrX (sN s) (sN s) k) (nvN (sN s)) (tcN (sN s)) (txN (sN s)) := yrsR_YW G0 hI.1.1 k
    refine e_aload_n dX12_broke_52 rfl ?_
    refine e_get dX12_broke_53 fl_X12_9_12 hR.1 rfl ?_
    refine e_bipush (nI (12)) dX12_broke_56 (by decide) ?_
    refine e_ild (12) (((yrX (sN s) (sN s) k) (12))) dX12_broke_58 hR.2.1 rfl (by omega) (by decide) rfl ?_
    refine e_if_ge 66 dX12_broke_59 (by decide) (fun hcq59 => ?_) (fun hcq59 => ?_)
    · refine e_iconst (nI (0)) dX12_broke_66 (by decide) ?_
      refine e_istore_n dX12_broke_67 (by decide) ?_
      refine e_aload_n dX12_broke_68 rfl ?_
      refine e_iconst (nI (0)) dX12_broke_69 (by decide) ?_
      refine c_V1i (nc := 0) (ns := 0) (mc := 0) (ms := 0) (N := mX12_back) dX12_broke_70 lv_X12_290 mo_X12_back hR.cn (Nat.le_of_ble_eq_true rfl) (Nat.le_of_ble_eq_true rfl) (by decide) (s_back D hR (nI (0))) (fun h hP => ?_)
      obtain ⟨hR, hF1⟩ := hP
      have hF := hF.trans hF1
      rw [hA2] at hR
      have hY := hI.1.1
      refine e_if_neN 84 dX12_broke_73 (by decide) (by omega) (fun hcq73 => absurd hcq73 (by decide)) (fun hcq73 => ?_)
      refine e_iload_n dX12_broke_76 rfl ?_
      refine e_if_eqN 84 dX12_broke_77 (by decide) (by omega) (fun hcq77 => ?_) (fun hcq77 => absurd hcq77 (by decide))
      refine e_aload_n dX12_broke_84 rfl ?_
      refine e_ldc dX12_broke_85 w_1340 ?_
      refine c_V1i (nc := 0) (ns := 0) (mc := 0) (ms := 0) (N := mX12_finding) dX12_broke_87 lv_X12_90 mo_X12_finding hR.cn (Nat.le_of_ble_eq_true rfl) (Nat.le_of_ble_eq_true rfl) (by decide) (s_finding D hR 2 (by decide) (((-1000000002))) fE2) (fun h hP => ?_)
      obtain ⟨hR, hF1⟩ := hP
      have hF := hF.trans hF1
      have hS := hS.er 2
      refine e_top (lowE 2) lE2 ?_
      have e9 : f_broke s n = er 2 (s) := by rw [f_broke, if_pos hcq4, hfs]; exact if_neg (Int32.not_lt.mpr hcq59)
      rw [e9] at hp
      exact e_iret dX12_broke_90 rfl (hp _ ⟨⟨_, _, hR, hS⟩, hF⟩)
    · refine e_iconst (nI (1)) dX12_broke_62 (by decide) ?_
      refine e_goto 67 dX12_broke_63 (by decide) ?_
      refine e_istore_n dX12_broke_67 (by decide) ?_
      refine e_aload_n dX12_broke_68 rfl ?_
      refine e_iconst (nI (0)) dX12_broke_69 (by decide) ?_
      refine c_V1i (nc := 0) (ns := 0) (mc := 0) (ms := 0) (N := mX12_back) dX12_broke_70 lv_X12_290 mo_X12_back hR.cn (Nat.le_of_ble_eq_true rfl) (Nat.le_of_ble_eq_true rfl) (by decide) (s_back D hR (nI (0))) (fun h hP => ?_)
      obtain ⟨hR, hF1⟩ := hP
      have hF := hF.trans hF1
      rw [hA2] at hR
      have hY := hI.1.1
      refine e_if_neN 84 dX12_broke_73 (by decide) (by omega) (fun hcq73 => absurd hcq73 (by decide)) (fun hcq73 => ?_)
      refine e_iload_n dX12_broke_76 rfl ?_
      refine e_if_eqN 84 dX12_broke_77 (by decide) (by omega) (fun hcq77 => absurd hcq77 (by decide)) (fun hcq77 => ?_)
      refine e_iload_n dX12_broke_80 rfl ?_
      refine e_goto 90 dX12_broke_81 (by decide) ?_
      have e9 : f_broke s n = (nI (k), s) := by rw [f_broke, if_pos hcq4, hfs]; exact if_pos (Int32.not_le.mp hcq59)
      rw [e9] at hp
      exact e_iret dX12_broke_90 rfl (hp _ ⟨⟨_, _, hR, hS⟩, hF⟩)
  · refine e_aload_n dX12_broke_7 rfl ?_
    refine e_ldc dX12_broke_8 w_1294 ?_
    refine c_V1i (nc := 0) (ns := 0) (mc := 0) (ms := 0) (N := mX12_finding) dX12_broke_10 lv_X12_90 mo_X12_finding hR.cn (Nat.le_of_ble_eq_true rfl) (Nat.le_of_ble_eq_true rfl) (by decide) (s_finding D hR 1 (by decide) (((-1000000001))) fE1) (fun h hP => ?_)
    obtain ⟨hR, hF1⟩ := hP
    have hF := hF.trans hF1
    have hS := hS.er 1
    refine e_top (lowE 1) lE1 ?_
    have e9 : f_broke s n = er 1 (s) := by rw [f_broke, if_neg hcq4]
    rw [e9] at hp
    exact e_iret dX12_broke_13 rfl (hp _ ⟨⟨_, _, hR, hS⟩, hF⟩)
set_option maxRecDepth 20000 in
theorem rp_worth (D : En) {h : AH} {s : SS} (hI : INV s) (hRS : RefS h s) (t : Int32) (n : Int32) : Sp D 9 mX12_worth [.ref (82), .int (t), .int (n)] h 0 0 (some (.int (f_worth s t n).1)) (fun h' => RefS h' (f_worth s t n).2 ∧ FrR h h') := by
  obtain ⟨σ, τ, hR, hS⟩ := hRS
  have hY := hI.1.1
  have hnv := hY.2.1
  have htc10 := hY.2.2.2.1
  obtain ⟨h00, hh00⟩ : ∃ z, z = h := ⟨_, rfl⟩
  have hF : FrR h00 h := by rw [hh00]; exact FrR.rf
  intro post hp
  rw [← hh00] at hp
  show Ev D 9 mX12_worth 0 [some (.ref (82)), some (.int (t)), some (.int (n)), none] [] h 0 0 post
  refine e_aload_n dX12_worth_0 rfl ?_
  refine e_iload_n dX12_worth_1 rfl ?_
  refine e_iconst (nI (2)) dX12_worth_2 (by decide) ?_
  refine c_V2iR (N := mX12_is) dX12_worth_3 lv_X12_103 mo_X12_is hR.cn (Nat.le_of_ble_eq_true rfl) (Nat.le_of_ble_eq_true rfl) (by decide) (s_is D hR ((t)) (2) (by omega)) ?_
  refine e_if_eqB 16 dX12_worth_6 (by decide) (fun hcq6 => ?_) (fun hcq6 => ?_)
  · refine e_aload_n dX12_worth_16 rfl ?_
    refine e_ldc dX12_worth_17 w_1294 ?_
    refine c_V1i (nc := 0) (ns := 0) (mc := 0) (ms := 0) (N := mX12_finding) dX12_worth_19 lv_X12_90 mo_X12_finding hR.cn (Nat.le_of_ble_eq_true rfl) (Nat.le_of_ble_eq_true rfl) (by decide) (s_finding D hR 1 (by decide) (((-1000000001))) fE1) (fun h hP => ?_)
    obtain ⟨hR, hF1⟩ := hP
    have hF := hF.trans hF1
    have hS := hS.er 1
    refine e_top (lowE 1) lE1 ?_
    have e9 : f_worth s t n = er 1 (s) := by rw [f_worth, if_neg hcq6]
    rw [e9] at hp
    exact e_iret dX12_worth_22 rfl (hp _ ⟨⟨_, _, hR, hS⟩, hF⟩)
  · obtain ⟨hn_t, hl_t⟩ := isN hcq6 hY.2.2.1 (by omega)
    refine e_iload_n dX12_worth_9 rfl ?_
    refine c_S1iR (N := mX12_isAhead) dX12_worth_10 ls_X12_281 mo_X12_isAhead  (Nat.le_of_ble_eq_true rfl) (Nat.le_of_ble_eq_true rfl) (by decide) (s_isAhead D ((n))) ?_
    refine e_if_neB 23 dX12_worth_13 (by decide) (fun hcq13 => ?_) (fun hcq13 => ?_)
    · obtain ⟨hn_n, hg_n, hl_n⟩ := wiN hcq13 (by decide) (by decide)
      refine e_aload_n dX12_worth_23 rfl ?_
      refine e_get dX12_worth_24 fl_X12_9_12 hR.1 rfl ?_
      refine e_aload_n dX12_worth_27 rfl ?_
      refine e_get dX12_worth_28 fl_X12_16_12 hR.1 rfl ?_
      refine c_S2v (nc := 0) (ns := 0) (mc := 0) (ms := 0) (N := mX12_copy) dX12_worth_31 ls_X12_277 mo_X12_copy  (Nat.le_of_ble_eq_true rfl) (Nat.le_of_ble_eq_true rfl) (by decide) (s_copyNA D hR) (fun h hP => ?_)
      obtain ⟨hR, hF1⟩ := hP
      have hF := hF.trans hF1
      obtain ⟨σ, hR, hA2, hS⟩ : ∃ z, RefAt h (sN s) z τ ∧ z 2 = sN s ∧ RS z τ s := ⟨_, hR, va_upS _ _ _, hS.to (fun i hi => va_upN _ _ hi.1) rfl rfl⟩
      refine e_aload_n dX12_worth_34 rfl ?_
      refine e_iload_n dX12_worth_35 rfl ?_
      refine e_top (nI (tn t)) (hn_t) ?_
      refine e_iconst (nI (1)) dX12_worth_36 (by decide) ?_
      refine c_V2v (nc := 0) (ns := 0) (mc := 0) (ms := 0) (N := mX12_opens) dX12_worth_37 lv_X12_246 mo_X12_opens hR.cn (Nat.le_of_ble_eq_true rfl) (Nat.le_of_ble_eq_true rfl) (by decide) (s_opens D hR (tn t) (by omega) (nI (1))) (fun h hP => ?_)
      obtain ⟨hR, hF1⟩ := hP
      have hF := hF.trans hF1
      rw [if_neg (by decide)] at hR
      have hY := YW_upd (x := nI 1) hY (k := 112 + 7 * (tn t) + 5) (by unfold FI; omega)
      refine e_aload_n dX12_worth_40 rfl ?_
      refine e_aload_n dX12_worth_41 rfl ?_
      refine e_iload_n dX12_worth_42 rfl ?_
      refine e_top (nI (tn n)) (hn_n) ?_
      refine c_V1i (nc := 0) (ns := 0) (mc := 0) (ms := 0) (N := mX12_ahead) dX12_worth_43 lv_X12_284 mo_X12_ahead hR.cn (Nat.le_of_ble_eq_true rfl) (Nat.le_of_ble_eq_true rfl) (by decide) (s_ahead D hR hY (tn n) (by omega)) (fun h hP => ?_)
      have hG9 := hS.2.1.1
      obtain ⟨σ, hR, hE1, hF1⟩ := hP
      have hF := hF.trans hF1
      rw [hG9] at hR
      have hR : RefAt h (yrX (sN s) (upd (sN s) (112 + 7 * (tn t) + 5) (nI 1)) (tn n)) σ τ := hR
      have hA2 := (hE1 2 (by decide) (by decide) (by decide)).trans hA2
      have hS := hS.to (fun i hi => hE1 i hi.2.1 hi.2.2.2.1 hi.2.2.2.2.1) rfl rfl
      have hY : YW (yrX (sN s) (upd (sN s) (112 + 7 * (tn t) + 5) (nI 1)) (tn n)) (nvN (sN s)) (tcN (sN s)) (txN (sN s)) := yrsR_YW G0 hY _
      refine e_top (ppN (yrX (sN s) (upd (sN s) (112 + 7 * (tn t) + 5) (nI 1)) (tn n)) (nvN (sN s))) (by rw [hG9]; rfl) ?_
      refine c_V1i (nc := 0) (ns := 0) (mc := 0) (ms := 0) (N := mX12_back) dX12_worth_46 lv_X12_290 mo_X12_back hR.cn (Nat.le_of_ble_eq_true rfl) (Nat.le_of_ble_eq_true rfl) (by decide) (s_back D hR ((ppN (yrX (sN s) (upd (sN s) (112 + 7 * (tn t) + 5) (nI 1)) (tn n)) (nvN (sN s))))) (fun h hP => ?_)
      obtain ⟨hR, hF1⟩ := hP
      have hF := hF.trans hF1
      rw [hA2] at hR
      have hY := hI.1.1
      refine e_istore_n dX12_worth_49 (by decide) ?_
      refine e_aload_n dX12_worth_50 rfl ?_
      refine e_iload_n dX12_worth_51 rfl ?_
      refine e_top (nI (tn t)) (hn_t) ?_
      refine e_iconst (nI (0)) dX12_worth_52 (by decide) ?_
      refine c_V2v (nc := 0) (ns := 0) (mc := 0) (ms := 0) (N := mX12_opens) dX12_worth_53 lv_X12_246 mo_X12_opens hR.cn (Nat.le_of_ble_eq_true rfl) (Nat.le_of_ble_eq_true rfl) (by decide) (s_opens D hR (tn t) (by omega) (nI (0))) (fun h hP => ?_)
      obtain ⟨hR, hF1⟩ := hP
      have hF := hF.trans hF1
      rw [if_pos (by decide)] at hR
      have hY := YW_upd (x := nI 0) hY (k := 112 + 7 * (tn t) + 5) (by unfold FI; omega)
      refine e_iload_n dX12_worth_56 rfl ?_
      refine e_aload_n dX12_worth_57 rfl ?_
      refine e_aload_n dX12_worth_58 rfl ?_
      refine e_iload_n dX12_worth_59 rfl ?_
      refine e_top (nI (tn n)) (hn_n) ?_
      refine c_V1i (nc := 0) (ns := 0) (mc := 0) (ms := 0) (N := mX12_ahead) dX12_worth_60 lv_X12_284 mo_X12_ahead hR.cn (Nat.le_of_ble_eq_true rfl) (Nat.le_of_ble_eq_true rfl) (by decide) (s_ahead D hR hY (tn n) (by omega)) (fun h hP => ?_)
      have hG9 := hS.2.1.1
      obtain ⟨σ, hR, hE1, hF1⟩ := hP
      have hF := hF.trans hF1
      rw [hG9] at hR
      have hR : RefAt h (yrX (sN s) (upd (sN s) (112 + 7 * (tn t) + 5) (nI 0)) (tn n)) σ τ := hR
      have hA2 := (hE1 2 (by decide) (by decide) (by decide)).trans hA2
      have hS := hS.to (fun i hi => hE1 i hi.2.1 hi.2.2.2.1 hi.2.2.2.2.1) rfl rfl
      have hY : YW (yrX (sN s) (upd (sN s) (112 + 7 * (tn t) + 5) (nI 0)) (tn n)) (nvN (sN s)) (tcN (sN s)) (txN (sN s)) := yrsR_YW G0 hY _
      refine e_top (ppN (yrX (sN s) (upd (sN s) (112 + 7 * (tn t) + 5) (nI 0)) (tn n)) (nvN (sN s))) (by rw [hG9]; rfl) ?_
      refine c_V1i (nc := 0) (ns := 0) (mc := 0) (ms := 0) (N := mX12_back) dX12_worth_63 lv_X12_290 mo_X12_back hR.cn (Nat.le_of_ble_eq_true rfl) (Nat.le_of_ble_eq_true rfl) (by decide) (s_back D hR ((ppN (yrX (sN s) (upd (sN s) (112 + 7 * (tn t) + 5) (nI 0)) (tn n)) (nvN (sN s))))) (fun h hP => ?_)
      obtain ⟨hR, hF1⟩ := hP
      have hF := hF.trans hF1
      rw [hA2] at hR
      have hY := hI.1.1
      refine e_isub dX12_worth_66 ?_
      have e9 : f_worth s t n = (((ppN (yrX (sN s) (upd (sN s) (112 + 7 * (tn t) + 5) (nI 1)) (tn n)) (nvN (sN s))) - (ppN (yrX (sN s) (upd (sN s) (112 + 7 * (tn t) + 5) (nI 0)) (tn n)) (nvN (sN s)))), s) := by rw [f_worth, if_pos hcq6, if_pos hcq13]; rfl
      rw [e9] at hp
      exact e_iret dX12_worth_67 rfl (hp _ ⟨⟨_, _, hR, hS⟩, hF⟩)
    · refine e_aload_n dX12_worth_16 rfl ?_
      refine e_ldc dX12_worth_17 w_1294 ?_
      refine c_V1i (nc := 0) (ns := 0) (mc := 0) (ms := 0) (N := mX12_finding) dX12_worth_19 lv_X12_90 mo_X12_finding hR.cn (Nat.le_of_ble_eq_true rfl) (Nat.le_of_ble_eq_true rfl) (by decide) (s_finding D hR 1 (by decide) (((-1000000001))) fE1) (fun h hP => ?_)
      obtain ⟨hR, hF1⟩ := hP
      have hF := hF.trans hF1
      have hS := hS.er 1
      refine e_top (lowE 1) lE1 ?_
      have e9 : f_worth s t n = er 1 (s) := by rw [f_worth, if_pos hcq6, if_neg hcq13]
      rw [e9] at hp
      exact e_iret dX12_worth_22 rfl (hp _ ⟨⟨_, _, hR, hS⟩, hF⟩)
set_option maxRecDepth 20000 in
theorem rp_promised (D : En) {h : AH} {s : SS} (hI : INV s) (hRS : RefS h s) (t : Int32) (y : Int32) (n : Int32) : Sp D 9 mX12_promised [.ref (82), .int (t), .int (y), .int (n)] h 0 0 (some (.int (f_promised s t y n).1)) (fun h' => RefS h' (f_promised s t y n).2 ∧ FrR h h') := by
  obtain ⟨σ, τ, hR, hS⟩ := hRS
  have hY := hI.1.1
  have hnv := hY.2.1
  have htc10 := hY.2.2.2.1
  obtain ⟨h00, hh00⟩ : ∃ z, z = h := ⟨_, rfl⟩
  have hF : FrR h00 h := by rw [hh00]; exact FrR.rf
  intro post hp
  rw [← hh00] at hp
  show Ev D 9 mX12_promised 0 [some (.ref (82)), some (.int (t)), some (.int (y)), some (.int (n)), none] [] h 0 0 post
  refine e_aload_n dX12_promised_0 rfl ?_
  refine e_iload_n dX12_promised_1 rfl ?_
  refine e_iconst (nI (2)) dX12_promised_2 (by decide) ?_
  refine c_V2iR (N := mX12_is) dX12_promised_3 lv_X12_103 mo_X12_is hR.cn (Nat.le_of_ble_eq_true rfl) (Nat.le_of_ble_eq_true rfl) (by decide) (s_is D hR ((t)) (2) (by omega)) ?_
  refine e_if_eqB 27 dX12_promised_6 (by decide) (fun hcq6 => ?_) (fun hcq6 => ?_)
  · refine e_aload_n dX12_promised_27 rfl ?_
    refine e_ldc dX12_promised_28 w_1294 ?_
    refine c_V1i (nc := 0) (ns := 0) (mc := 0) (ms := 0) (N := mX12_finding) dX12_promised_30 lv_X12_90 mo_X12_finding hR.cn (Nat.le_of_ble_eq_true rfl) (Nat.le_of_ble_eq_true rfl) (by decide) (s_finding D hR 1 (by decide) (((-1000000001))) fE1) (fun h hP => ?_)
    obtain ⟨hR, hF1⟩ := hP
    have hF := hF.trans hF1
    have hS := hS.er 1
    refine e_top (lowE 1) lE1 ?_
    have e9 : f_promised s t y n = er 1 (s) := by rw [f_promised, if_neg hcq6]
    rw [e9] at hp
    exact e_iret dX12_promised_33 rfl (hp _ ⟨⟨_, _, hR, hS⟩, hF⟩)
  · obtain ⟨hn_t, hl_t⟩ := isN hcq6 hY.2.2.1 (by omega)
    refine e_iload_n dX12_promised_9 rfl ?_
    refine e_iconst (nI (0)) dX12_promised_10 (by decide) ?_
    refine e_sipush (nI (199)) dX12_promised_11 (by decide) ?_
    refine c_S3iR (N := mX12_within) dX12_promised_14 ls_X12_76 mo_X12_within  (Nat.le_of_ble_eq_true rfl) (Nat.le_of_ble_eq_true rfl) (by decide) (s_within D ((y)) (nI (0)) (nI (199))) ?_
    refine e_if_eqB 27 dX12_promised_17 (by decide) (fun hcq17 => ?_) (fun hcq17 => ?_)
    · refine e_aload_n dX12_promised_27 rfl ?_
      refine e_ldc dX12_promised_28 w_1294 ?_
      refine c_V1i (nc := 0) (ns := 0) (mc := 0) (ms := 0) (N := mX12_finding) dX12_promised_30 lv_X12_90 mo_X12_finding hR.cn (Nat.le_of_ble_eq_true rfl) (Nat.le_of_ble_eq_true rfl) (by decide) (s_finding D hR 1 (by decide) (((-1000000001))) fE1) (fun h hP => ?_)
      obtain ⟨hR, hF1⟩ := hP
      have hF := hF.trans hF1
      have hS := hS.er 1
      refine e_top (lowE 1) lE1 ?_
      have e9 : f_promised s t y n = er 1 (s) := by rw [f_promised, if_pos hcq6, if_neg hcq17]
      rw [e9] at hp
      exact e_iret dX12_promised_33 rfl (hp _ ⟨⟨_, _, hR, hS⟩, hF⟩)
    · obtain ⟨hn_y, hg_y, hl_y⟩ := wiN hcq17 (by decide) (by decide)
      refine e_iload_n dX12_promised_20 rfl ?_
      refine c_S1iR (N := mX12_isAhead) dX12_promised_21 ls_X12_281 mo_X12_isAhead  (Nat.le_of_ble_eq_true rfl) (Nat.le_of_ble_eq_true rfl) (by decide) (s_isAhead D ((n))) ?_
      refine e_if_neB 34 dX12_promised_24 (by decide) (fun hcq24 => ?_) (fun hcq24 => ?_)
      · obtain ⟨hn_n, hg_n, hl_n⟩ := wiN hcq24 (by decide) (by decide)
        refine e_aload_n dX12_promised_34 rfl ?_
        refine e_get dX12_promised_35 fl_X12_9_12 hR.1 rfl ?_
        refine e_aload_n dX12_promised_38 rfl ?_
        refine e_get dX12_promised_39 fl_X12_16_12 hR.1 rfl ?_
        refine c_S2v (nc := 0) (ns := 0) (mc := 0) (ms := 0) (N := mX12_copy) dX12_promised_42 ls_X12_277 mo_X12_copy  (Nat.le_of_ble_eq_true rfl) (Nat.le_of_ble_eq_true rfl) (by decide) (s_copyNA D hR) (fun h hP => ?_)
        obtain ⟨hR, hF1⟩ := hP
        have hF := hF.trans hF1
        obtain ⟨σ, hR, hA2, hS⟩ : ∃ z, RefAt h (sN s) z τ ∧ z 2 = sN s ∧ RS z τ s := ⟨_, hR, va_upS _ _ _, hS.to (fun i hi => va_upN _ _ hi.1) rfl rfl⟩
        refine e_aload_n dX12_promised_45 rfl ?_
        refine e_get dX12_promised_46 fl_X12_9_12 hR.1 rfl ?_
        refine e_bipush (nI (112)) dX12_promised_49 (by decide) ?_
        refine e_bipush (nI (7)) dX12_promised_51 (by decide) ?_
        refine e_iload_n dX12_promised_53 rfl ?_
        refine e_top (nI (tn t)) (hn_t) ?_
        refine e_imulN dX12_promised_54 ?_
        refine e_iaddN dX12_promised_55 ?_
        refine e_bipush (nI (6)) dX12_promised_56 (by decide) ?_
        refine e_iaddN dX12_promised_58 ?_
        refine e_iload_n dX12_promised_59 rfl ?_
        refine r_stN ((112 + (7 * (tn t))) + 6) dX12_promised_60 hR hF rfl (by omega) (fun h hR hF => ?_)
        have hY := YW_upd (x := (y)) hY (k := (112 + (7 * (tn t))) + 6) (by unfold FI; omega)
        refine e_aload_n dX12_promised_61 rfl ?_
        refine e_aload_n dX12_promised_62 rfl ?_
        refine e_iload_n dX12_promised_63 rfl ?_
        refine e_top (nI (tn n)) (hn_n) ?_
        refine c_V1i (nc := 0) (ns := 0) (mc := 0) (ms := 0) (N := mX12_ahead) dX12_promised_64 lv_X12_284 mo_X12_ahead hR.cn (Nat.le_of_ble_eq_true rfl) (Nat.le_of_ble_eq_true rfl) (by decide) (s_ahead D hR hY (tn n) (by omega)) (fun h hP => ?_)
        have hG9 := hS.2.1.1
        obtain ⟨σ, hR, hE1, hF1⟩ := hP
        have hF := hF.trans hF1
        rw [hG9] at hR
        have hR : RefAt h (yrX (sN s) (upd (sN s) ((112 + (7 * (tn t))) + 6) ((y))) (tn n)) σ τ := hR
        have hA2 := (hE1 2 (by decide) (by decide) (by decide)).trans hA2
        have hS := hS.to (fun i hi => hE1 i hi.2.1 hi.2.2.2.1 hi.2.2.2.2.1) rfl rfl
        have hY : YW (yrX (sN s) (upd (sN s) ((112 + (7 * (tn t))) + 6) ((y))) (tn n)) (nvN (sN s)) (tcN (sN s)) (txN (sN s)) := yrsR_YW G0 hY _
        refine e_top (ppN (yrX (sN s) (upd (sN s) ((112 + (7 * (tn t))) + 6) ((y))) (tn n)) (nvN (sN s))) (by rw [hG9]; rfl) ?_
        refine c_V1i (nc := 0) (ns := 0) (mc := 0) (ms := 0) (N := mX12_back) dX12_promised_67 lv_X12_290 mo_X12_back hR.cn (Nat.le_of_ble_eq_true rfl) (Nat.le_of_ble_eq_true rfl) (by decide) (s_back D hR ((ppN (yrX (sN s) (upd (sN s) ((112 + (7 * (tn t))) + 6) ((y))) (tn n)) (nvN (sN s))))) (fun h hP => ?_)
        obtain ⟨hR, hF1⟩ := hP
        have hF := hF.trans hF1
        rw [hA2] at hR
        have hY := hI.1.1
        refine e_istore dX12_promised_70 (by decide) ?_
        refine e_aload_n dX12_promised_72 rfl ?_
        refine e_get dX12_promised_73 fl_X12_9_12 hR.1 rfl ?_
        refine e_bipush (nI (112)) dX12_promised_76 (by decide) ?_
        refine e_bipush (nI (7)) dX12_promised_78 (by decide) ?_
        refine e_iload_n dX12_promised_80 rfl ?_
        refine e_top (nI (tn t)) (hn_t) ?_
        refine e_imulN dX12_promised_81 ?_
        refine e_iaddN dX12_promised_82 ?_
        refine e_bipush (nI (6)) dX12_promised_83 (by decide) ?_
        refine e_iaddN dX12_promised_85 ?_
        refine e_iconst (((-1))) dX12_promised_86 (by decide) ?_
        refine r_stN ((112 + (7 * (tn t))) + 6) dX12_promised_87 hR hF rfl (by omega) (fun h hR hF => ?_)
        have hY := YW_upd (x := ((-1))) hY (k := (112 + (7 * (tn t))) + 6) (by unfold FI; omega)
        refine e_iload dX12_promised_88 rfl ?_
        refine e_aload_n dX12_promised_90 rfl ?_
        refine e_aload_n dX12_promised_91 rfl ?_
        refine e_iload_n dX12_promised_92 rfl ?_
        refine e_top (nI (tn n)) (hn_n) ?_
        refine c_V1i (nc := 0) (ns := 0) (mc := 0) (ms := 0) (N := mX12_ahead) dX12_promised_93 lv_X12_284 mo_X12_ahead hR.cn (Nat.le_of_ble_eq_true rfl) (Nat.le_of_ble_eq_true rfl) (by decide) (s_ahead D hR hY (tn n) (by omega)) (fun h hP => ?_)
        have hG9 := hS.2.1.1
        obtain ⟨σ, hR, hE1, hF1⟩ := hP
        have hF := hF.trans hF1
        rw [hG9] at hR
        have hR : RefAt h (yrX (sN s) (upd (sN s) ((112 + (7 * (tn t))) + 6) (((-1)))) (tn n)) σ τ := hR
        have hA2 := (hE1 2 (by decide) (by decide) (by decide)).trans hA2
        have hS := hS.to (fun i hi => hE1 i hi.2.1 hi.2.2.2.1 hi.2.2.2.2.1) rfl rfl
        have hY : YW (yrX (sN s) (upd (sN s) ((112 + (7 * (tn t))) + 6) (((-1)))) (tn n)) (nvN (sN s)) (tcN (sN s)) (txN (sN s)) := yrsR_YW G0 hY _
        refine e_top (ppN (yrX (sN s) (upd (sN s) ((112 + (7 * (tn t))) + 6) (((-1)))) (tn n)) (nvN (sN s))) (by rw [hG9]; rfl) ?_
        refine c_V1i (nc := 0) (ns := 0) (mc := 0) (ms := 0) (N := mX12_back) dX12_promised_96 lv_X12_290 mo_X12_back hR.cn (Nat.le_of_ble_eq_true rfl) (Nat.le_of_ble_eq_true rfl) (by decide) (s_back D hR ((ppN (yrX (sN s) (upd (sN s) ((112 + (7 * (tn t))) + 6) (((-1)))) (tn n)) (nvN (sN s))))) (fun h hP => ?_)
        obtain ⟨hR, hF1⟩ := hP
        have hF := hF.trans hF1
        rw [hA2] at hR
        have hY := hI.1.1
        refine e_isub dX12_promised_99 ?_
        have e9 : f_promised s t y n = (((ppN (yrX (sN s) (upd (sN s) ((112 + (7 * (tn t))) + 6) ((y))) (tn n)) (nvN (sN s))) - (ppN (yrX (sN s) (upd (sN s) ((112 + (7 * (tn t))) + 6) (((-1)))) (tn n)) (nvN (sN s)))), s) := by rw [f_promised, if_pos hcq6, if_pos hcq17, if_pos hcq24]; rfl
        rw [e9] at hp
        exact e_iret dX12_promised_100 rfl (hp _ ⟨⟨_, _, hR, hS⟩, hF⟩)
      · refine e_aload_n dX12_promised_27 rfl ?_
        refine e_ldc dX12_promised_28 w_1294 ?_
        refine c_V1i (nc := 0) (ns := 0) (mc := 0) (ms := 0) (N := mX12_finding) dX12_promised_30 lv_X12_90 mo_X12_finding hR.cn (Nat.le_of_ble_eq_true rfl) (Nat.le_of_ble_eq_true rfl) (by decide) (s_finding D hR 1 (by decide) (((-1000000001))) fE1) (fun h hP => ?_)
        obtain ⟨hR, hF1⟩ := hP
        have hF := hF.trans hF1
        have hS := hS.er 1
        refine e_top (lowE 1) lE1 ?_
        have e9 : f_promised s t y n = er 1 (s) := by rw [f_promised, if_pos hcq6, if_pos hcq17, if_neg hcq24]
        rw [e9] at hp
        exact e_iret dX12_promised_33 rfl (hp _ ⟨⟨_, _, hR, hS⟩, hF⟩)
set_option maxRecDepth 20000 in
theorem lp_edge (D : En) {s : SS} {τ : Nat → Int32} {h00 : AH} (hI : INV s) {post : Option Value → AH → Prop} (t n : Int32) (hn_t : t = nI (tn t)) (hl_t : tn t < tcN (sN s)) (hn_n : n = nI (tn n)) (hl_n : tn n ≤ 40) (hcq6 : isT s t) (hcq13 : wi (nI 0) n (nI 40)) (ho : sN s (112 + 7 * tn t + 5) = nI 1) (hp : ∀ h', RefS h' (f_edge s t n).2 ∧ FrR h00 h' → post (some (.int (f_edge s t n).1)) h') : ∀ (j : Nat) (y : Nat) (h : AH) (σ : Nat → Nat → Int32), (y + j = 401) → (RefAt h (sN s) σ τ) → (FrR h00 h) → (RS σ τ s) → (σ 2 = sN s) → (fsP (edP (sN s) (tn t) (tn n)) 401 0 = fsP (edP (sN s) (tn t) (tn n)) j y) → Ev D 9 mX12_edge 36 [some (.ref (82)), some (.int (t)), some (.int (n)), some (.int (nI (y))), none, none] [] h 0 0 post := by
  intro j
  induction j with
  | zero =>
    intro y h σ hm hR hF hS hA2 hfs
    have hY := hI.1.1
    have hnv := hY.2.1
    have htc10 := hY.2.2.2.1
    have hat := (hY.2.2.2.2.1 _ hl_t).2.2
    refine e_iload_n dX12_edge_36 rfl ?_
    refine e_sipush (nI (400)) dX12_edge_37 (by decide) ?_
    refine e_icmp_gtN 110 dX12_edge_40 (by decide) (by omega) (by omega) (fun hcq40 => ?_) (fun hcq40 => absurd hcq40 (by omega))
    refine e_aload_n dX12_edge_110 rfl ?_
    refine e_ldc dX12_edge_111 w_1340 ?_
    refine c_V1i (nc := 0) (ns := 0) (mc := 0) (ms := 0) (N := mX12_finding) dX12_edge_113 lv_X12_90 mo_X12_finding hR.cn (Nat.le_of_ble_eq_true rfl) (Nat.le_of_ble_eq_true rfl) (by decide) (s_finding D hR 2 (by decide) (((-1000000002))) fE2) (fun h hP => ?_)
    obtain ⟨hR, hF1⟩ := hP
    have hF := hF.trans hF1
    have hS := hS.er 2
    refine e_top (lowE 2) lE2 ?_
    have e9 : f_edge s t n = er 2 (s) := by rw [f_edge, if_pos hcq6, if_pos hcq13, if_pos ho, show fsP (edP (sN s) (tn t) (tn n)) 401 0 = y from hfs, if_neg (by omega)]
    rw [e9] at hp
    exact e_iret dX12_edge_116 rfl (hp _ ⟨⟨_, _, hR, hS⟩, hF⟩)
  | succ j ih =>
    intro y h σ hm hR hF hS hA2 hfs
    have hY := hI.1.1
    have hnv := hY.2.1
    have htc10 := hY.2.2.2.1
    have hat := (hY.2.2.2.2.1 _ hl_t).2.2
    refine e_iload_n dX12_edge_36 rfl ?_
    refine e_sipush (nI (400)) dX12_edge_37 (by decide) ?_
    refine e_icmp_gtN 110 dX12_edge_40 (by decide) (by omega) (by omega) (fun hcq40 => absurd hcq40 (by omega)) (fun hcq40 => ?_)
    refine e_aload_n dX12_edge_43 rfl ?_
    refine e_iload_n dX12_edge_44 rfl ?_
    refine e_top (nI (tn t)) (hn_t) ?_
    refine c_V1iR (N := mX12_isOpen) dX12_edge_45 lv_X12_158 mo_X12_isOpen hR.cn (Nat.le_of_ble_eq_true rfl) (Nat.le_of_ble_eq_true rfl) (by decide) (s_isOpen D hR (tn t) (by omega)) ?_
    refine e_if_eqB 110 dX12_edge_48 (by decide) (fun hcq48 => absurd ho hcq48) (fun hcq48 => ?_)
    refine e_aload_n dX12_edge_51 rfl ?_
    refine e_get dX12_edge_52 fl_X12_9_12 hR.1 rfl ?_
    refine e_bipush (nI (16)) dX12_edge_55 (by decide) ?_
    refine e_iconst (nI (4)) dX12_edge_57 (by decide) ?_
    refine e_aload_n dX12_edge_58 rfl ?_
    refine e_iload_n dX12_edge_59 rfl ?_
    refine e_top (nI (tn t)) (hn_t) ?_
    refine e_iconst (nI (1)) dX12_edge_60 (by decide) ?_
    refine c_V2iR (N := mX12_thing) dX12_edge_61 lv_X12_136 mo_X12_thing hR.cn (Nat.le_of_ble_eq_true rfl) (Nat.le_of_ble_eq_true rfl) (by decide) (s_thing D hR (tn t) (1) (by omega) (by omega)) ?_
    refine e_top (nI (atN (sN s) (tn t))) (hat.1) ?_
    refine e_imulN dX12_edge_64 ?_
    refine e_iaddN dX12_edge_65 ?_
    refine e_iconst (nI (1)) dX12_edge_66 (by decide) ?_
    refine e_iaddN dX12_edge_67 ?_
    refine e_iconst (nI (0)) dX12_edge_68 (by decide) ?_
    refine e_iaddN dX12_edge_69 ?_
    refine e_iload_n dX12_edge_70 rfl ?_
    refine r_stN (((16 + (4 * (atN (sN s) (tn t)))) + 1) + 0) dX12_edge_71 hR hF rfl (by omega) (fun h hR hF => ?_)
    have hY := YW_upd (x := nI (y)) hY (k := ((16 + (4 * (atN (sN s) (tn t)))) + 1) + 0) (by unfold FI; omega)
    refine e_aload_n dX12_edge_72 rfl ?_
    refine e_iload_n dX12_edge_73 rfl ?_
    refine e_top (nI (tn n)) (hn_n) ?_
    refine c_V1i (nc := 0) (ns := 0) (mc := 0) (ms := 0) (N := mX12_ahead) dX12_edge_74 lv_X12_284 mo_X12_ahead hR.cn (Nat.le_of_ble_eq_true rfl) (Nat.le_of_ble_eq_true rfl) (by decide) (s_ahead D hR hY (tn n) (by omega)) (fun h hP => ?_)
    have hG9 := hS.2.1.1
    obtain ⟨σ, hR, hE1, hF1⟩ := hP
    have hF := hF.trans hF1
    rw [hG9] at hR
    have hR : RefAt h (yrX (sN s) (upd (sN s) (((16 + (4 * (atN (sN s) (tn t)))) + 1) + 0) (nI (y))) (tn n)) σ τ := hR
    have hA2 := (hE1 2 (by decide) (by decide) (by decide)).trans hA2
    have hS := hS.to (fun i hi => hE1 i hi.2.1 hi.2.2.2.1 hi.2.2.2.2.1) rfl rfl
    have hY : YW (yrX (sN s) (upd (sN s) (((16 + (4 * (atN (sN s) (tn t)))) + 1) + 0) (nI (y))) (tn n)) (nvN (sN s)) (tcN (sN s)) (txN (sN s)) := yrsR_YW G0 hY _
    refine e_top (ppN (yrX (sN s) (upd (sN s) (((16 + (4 * (atN (sN s) (tn t)))) + 1) + 0) (nI (y))) (tn n)) (nvN (sN s))) (by rw [hG9]; rfl) ?_
    refine e_istore dX12_edge_77 (by decide) ?_
    refine e_aload_n dX12_edge_79 rfl ?_
    refine e_iload_n dX12_edge_80 rfl ?_
    refine e_top (nI (tn t)) (hn_t) ?_
    refine c_V1iR (N := mX12_isOpen) dX12_edge_81 lv_X12_158 mo_X12_isOpen hR.cn (Nat.le_of_ble_eq_true rfl) (Nat.le_of_ble_eq_true rfl) (by decide) (s_isOpen D hR (tn t) (by omega)) ?_
    refine e_istore dX12_edge_84 (by decide) ?_
    refine e_aload_n dX12_edge_86 rfl ?_
    refine e_get dX12_edge_87 fl_X12_16_12 hR.1 rfl ?_
    refine e_aload_n dX12_edge_90 rfl ?_
    refine e_get dX12_edge_91 fl_X12_9_12 hR.1 rfl ?_
    refine c_S2v (nc := 0) (ns := 0) (mc := 0) (ms := 0) (N := mX12_copy) dX12_edge_94 ls_X12_277 mo_X12_copy  (Nat.le_of_ble_eq_true rfl) (Nat.le_of_ble_eq_true rfl) (by decide) (s_copyAN D hR) (fun h hP => ?_)
    obtain ⟨hR, hF1⟩ := hP
    have hF := hF.trans hF1
    rw [hA2] at hR
    have hY := hI.1.1
    refine e_iload dX12_edge_97 rfl ?_
    refine e_if_eqB 104 dX12_edge_99 (by decide) (fun hcq99 => ?_) (fun hcq99 => ?_)
    · refine e_iincN (y + 1) dX12_edge_104 rfl (by decide) (nI_add _ _) ?_
      refine e_goto 36 dX12_edge_107 (by decide) ?_
      refine Ev.drop 4 (Ev.drop 5 ?_)
      exact ih (y + 1) h σ (by omega) hR hF hS hA2 (by rw [hfs, fsP, if_neg (by rw [show edP (sN s) (tn t) (tn n) y = false from decide_eq_false hcq99]; decide)])
    · refine e_iload_n dX12_edge_102 rfl ?_
      have e9 : f_edge s t n = (nI (y), s) := by rw [f_edge, if_pos hcq6, if_pos hcq13, if_pos ho, show fsP (edP (sN s) (tn t) (tn n)) 401 0 = y from by rw [hfs, fsP, if_pos (show edP (sN s) (tn t) (tn n) y = true from decide_eq_true hcq99)], if_pos (by omega)]
      rw [e9] at hp
      exact e_iret dX12_edge_103 rfl (hp _ ⟨⟨_, _, hR, hS⟩, hF⟩)
set_option maxRecDepth 20000 in
theorem rp_edge (D : En) {h : AH} {s : SS} (hI : INV s) (hRS : RefS h s) (t : Int32) (n : Int32) : Sp D 9 mX12_edge [.ref (82), .int (t), .int (n)] h 0 0 (some (.int (f_edge s t n).1)) (fun h' => RefS h' (f_edge s t n).2 ∧ FrR h h') := by
  obtain ⟨σ, τ, hR, hS⟩ := hRS
  have hY := hI.1.1
  have hnv := hY.2.1
  have htc10 := hY.2.2.2.1
  obtain ⟨h00, hh00⟩ : ∃ z, z = h := ⟨_, rfl⟩
  have hF : FrR h00 h := by rw [hh00]; exact FrR.rf
  intro post hp
  rw [← hh00] at hp
  show Ev D 9 mX12_edge 0 [some (.ref (82)), some (.int (t)), some (.int (n)), none, none, none] [] h 0 0 post
  refine e_aload_n dX12_edge_0 rfl ?_
  refine e_iload_n dX12_edge_1 rfl ?_
  refine e_iconst (nI (2)) dX12_edge_2 (by decide) ?_
  refine c_V2iR (N := mX12_is) dX12_edge_3 lv_X12_103 mo_X12_is hR.cn (Nat.le_of_ble_eq_true rfl) (Nat.le_of_ble_eq_true rfl) (by decide) (s_is D hR ((t)) (2) (by omega)) ?_
  refine e_if_eqB 16 dX12_edge_6 (by decide) (fun hcq6 => ?_) (fun hcq6 => ?_)
  · refine e_aload_n dX12_edge_16 rfl ?_
    refine e_ldc dX12_edge_17 w_1294 ?_
    refine c_V1i (nc := 0) (ns := 0) (mc := 0) (ms := 0) (N := mX12_finding) dX12_edge_19 lv_X12_90 mo_X12_finding hR.cn (Nat.le_of_ble_eq_true rfl) (Nat.le_of_ble_eq_true rfl) (by decide) (s_finding D hR 1 (by decide) (((-1000000001))) fE1) (fun h hP => ?_)
    obtain ⟨hR, hF1⟩ := hP
    have hF := hF.trans hF1
    have hS := hS.er 1
    refine e_top (lowE 1) lE1 ?_
    have e9 : f_edge s t n = er 1 (s) := by rw [f_edge, if_neg hcq6]
    rw [e9] at hp
    exact e_iret dX12_edge_22 rfl (hp _ ⟨⟨_, _, hR, hS⟩, hF⟩)
  · obtain ⟨hn_t, hl_t⟩ := isN hcq6 hY.2.2.1 (by omega)
    refine e_iload_n dX12_edge_9 rfl ?_
    refine c_S1iR (N := mX12_isAhead) dX12_edge_10 ls_X12_281 mo_X12_isAhead  (Nat.le_of_ble_eq_true rfl) (Nat.le_of_ble_eq_true rfl) (by decide) (s_isAhead D ((n))) ?_
    refine e_if_neB 23 dX12_edge_13 (by decide) (fun hcq13 => ?_) (fun hcq13 => ?_)
    · obtain ⟨hn_n, hg_n, hl_n⟩ := wiN hcq13 (by decide) (by decide)
      refine e_aload_n dX12_edge_23 rfl ?_
      refine e_get dX12_edge_24 fl_X12_9_12 hR.1 rfl ?_
      refine e_aload_n dX12_edge_27 rfl ?_
      refine e_get dX12_edge_28 fl_X12_16_12 hR.1 rfl ?_
      refine c_S2v (nc := 0) (ns := 0) (mc := 0) (ms := 0) (N := mX12_copy) dX12_edge_31 ls_X12_277 mo_X12_copy  (Nat.le_of_ble_eq_true rfl) (Nat.le_of_ble_eq_true rfl) (by decide) (s_copyNA D hR) (fun h hP => ?_)
      obtain ⟨hR, hF1⟩ := hP
      have hF := hF.trans hF1
      obtain ⟨σ, hR, hA2, hS⟩ : ∃ z, RefAt h (sN s) z τ ∧ z 2 = sN s ∧ RS z τ s := ⟨_, hR, va_upS _ _ _, hS.to (fun i hi => va_upN _ _ hi.1) rfl rfl⟩
      refine e_iconst (nI (0)) dX12_edge_34 (by decide) ?_
      refine e_istore_n dX12_edge_35 (by decide) ?_
      by_cases ho : sN s (112 + 7 * tn t + 5) = nI 1
      · exact lp_edge D hI t n hn_t hl_t hn_n (by omega) hcq6 hcq13 ho (fun h9 z9 => hp h9 z9) 401 0 h σ (by omega) hR hF hS hA2 rfl
      · refine e_iload_n dX12_edge_36 rfl ?_
        refine e_sipush (nI (400)) dX12_edge_37 (by decide) ?_
        refine e_icmp_gtN 110 dX12_edge_40 (by decide) (by omega) (by omega) (fun hcq40 => absurd hcq40 (by decide)) (fun hcq40 => ?_)
        refine e_aload_n dX12_edge_43 rfl ?_
        refine e_iload_n dX12_edge_44 rfl ?_
        refine e_top (nI (tn t)) (hn_t) ?_
        refine c_V1iR (N := mX12_isOpen) dX12_edge_45 lv_X12_158 mo_X12_isOpen hR.cn (Nat.le_of_ble_eq_true rfl) (Nat.le_of_ble_eq_true rfl) (by decide) (s_isOpen D hR (tn t) (by omega)) ?_
        refine e_if_eqB 110 dX12_edge_48 (by decide) (fun hcq48 => ?_) (fun hcq48 => absurd hcq48 ho)
        refine e_aload_n dX12_edge_110 rfl ?_
        refine e_ldc dX12_edge_111 w_1340 ?_
        refine c_V1i (nc := 0) (ns := 0) (mc := 0) (ms := 0) (N := mX12_finding) dX12_edge_113 lv_X12_90 mo_X12_finding hR.cn (Nat.le_of_ble_eq_true rfl) (Nat.le_of_ble_eq_true rfl) (by decide) (s_finding D hR 2 (by decide) (((-1000000002))) fE2) (fun h hP => ?_)
        obtain ⟨hR, hF1⟩ := hP
        have hF := hF.trans hF1
        have hS := hS.er 2
        refine e_top (lowE 2) lE2 ?_
        have e9 : f_edge s t n = er 2 (s) := by rw [f_edge, if_pos hcq6, if_pos hcq13, if_neg ho]
        rw [e9] at hp
        exact e_iret dX12_edge_116 rfl (hp _ ⟨⟨_, _, hR, hS⟩, hF⟩)
    · refine e_aload_n dX12_edge_16 rfl ?_
      refine e_ldc dX12_edge_17 w_1294 ?_
      refine c_V1i (nc := 0) (ns := 0) (mc := 0) (ms := 0) (N := mX12_finding) dX12_edge_19 lv_X12_90 mo_X12_finding hR.cn (Nat.le_of_ble_eq_true rfl) (Nat.le_of_ble_eq_true rfl) (by decide) (s_finding D hR 1 (by decide) (((-1000000001))) fE1) (fun h hP => ?_)
      obtain ⟨hR, hF1⟩ := hP
      have hF := hF.trans hF1
      have hS := hS.er 1
      refine e_top (lowE 1) lE1 ?_
      have e9 : f_edge s t n = er 1 (s) := by rw [f_edge, if_pos hcq6, if_neg hcq13]
      rw [e9] at hp
      exact e_iret dX12_edge_22 rfl (hp _ ⟨⟨_, _, hR, hS⟩, hF⟩)
set_option maxRecDepth 20000 in
theorem lp_roadI (D : En) {s : SS} {τ : Nat → Int32} {h00 : AH} (hI : INV s) {post : Option Value → AH → Prop} (n : Int32) (hn_n : n = nI (tn n)) (hl_n : tn n ≤ 40) (a : Nat) (ha : a < nvN (sN s)) (q0 : Int32 × Int32) (kk : ∀ h σ, RefAt h (sN s) σ τ → FrR h00 h → RS σ τ s → σ 2 = sN s → Ev D 9 mX12_road 129 [some (.ref 82), some (.int n), some (.int (rdI (sN s) (tn n) a q0 (nvN (sN s) - (a + 1))).1), some (.int (rdI (sN s) (tn n) a q0 (nvN (sN s) - (a + 1))).2), some (.int (nI a)), none, none, none] [] h 0 0 post) : ∀ (j : Nat) (i : Nat) (h : AH) (σ : Nat → Nat → Int32) (q : Int32 × Int32), (a + 1 + i + j = nvN (sN s)) → (RefAt h (sN s) σ τ) → (FrR h00 h) → (RS σ τ s) → (σ 2 = sN s) → (q = rdI (sN s) (tn n) a q0 i) → Ev D 9 mX12_road 49 [some (.ref (82)), some (.int (n)), some (.int (q.1)), some (.int (q.2)), some (.int (nI (a))), some (.int (nI (a + 1 + i))), none, none] [] h 0 0 post := by
  intro j
  induction j with
  | zero =>
    intro i h σ q hm hR hF hS hA2 hq
    have hY := hI.1.1
    have hnv := hY.2.1
    have htc10 := hY.2.2.2.1
    refine e_iload dX12_road_49 rfl ?_
    refine e_aload_n dX12_road_51 rfl ?_
    refine e_get dX12_road_52 fl_X12_9_12 hR.1 rfl ?_
    refine e_iconst (nI (1)) dX12_road_55 (by decide) ?_
    refine e_ild (1) (nI (nvN (sN s))) dX12_road_56 hR.2.1 rfl (by omega) (by decide) hY.1 ?_
    refine e_icmp_geN 129 dX12_road_57 (by decide) (by omega) (by omega) (fun hcq57 => ?_) (fun hcq57 => absurd hcq57 (by omega))
    rw [show i = nvN (sN s) - (a + 1) by omega] at hq
    rw [hq]
    exact Ev.drop 5 (kk h σ hR hF hS hA2)
  | succ j ih =>
    intro i h σ q hm hR hF hS hA2 hq
    have hY := hI.1.1
    have hnv := hY.2.1
    have htc10 := hY.2.2.2.1
    refine e_iload dX12_road_49 rfl ?_
    refine e_aload_n dX12_road_51 rfl ?_
    refine e_get dX12_road_52 fl_X12_9_12 hR.1 rfl ?_
    refine e_iconst (nI (1)) dX12_road_55 (by decide) ?_
    refine e_ild (1) (nI (nvN (sN s))) dX12_road_56 hR.2.1 rfl (by omega) (by decide) hY.1 ?_
    refine e_icmp_geN 129 dX12_road_57 (by decide) (by omega) (by omega) (fun hcq57 => absurd hcq57 (by omega)) (fun hcq57 => ?_)
    refine e_aload_n dX12_road_60 rfl ?_
    refine e_get dX12_road_61 fl_X12_9_12 hR.1 rfl ?_
    refine e_bipush (nI (48)) dX12_road_64 (by decide) ?_
    refine e_bipush (nI (8)) dX12_road_66 (by decide) ?_
    refine e_iload dX12_road_68 rfl ?_
    refine e_imulN dX12_road_70 ?_
    refine e_iaddN dX12_road_71 ?_
    refine e_iload dX12_road_72 rfl ?_
    refine e_iaddN dX12_road_74 ?_
    refine e_ild ((48 + (8 * a)) + (a + 1 + i)) (((sN s) ((48 + (8 * a)) + (a + 1 + i)))) dX12_road_75 hR.2.1 rfl (by omega) (by decide) rfl ?_
    refine e_if_ne 123 dX12_road_76 (by decide) (fun hcq76 => ?_) (fun hcq76 => ?_)
    · refine e_iincN (a + 1 + i + 1) dX12_road_123 rfl (by decide) (nI_add _ _) ?_
      refine e_goto 49 dX12_road_126 (by decide) ?_
      refine Ev.drop 6 (Ev.drop 7 ?_)
      exact ih (i + 1) h σ q (by omega) hR hF hS hA2 (by rw [rdI, ← hq]; exact (if_neg hcq76).symm)
    · refine e_aload_n dX12_road_79 rfl ?_
      refine e_iload dX12_road_80 rfl ?_
      refine e_iload dX12_road_82 rfl ?_
      refine e_iconst (nI (1)) dX12_road_84 (by decide) ?_
      refine c_V3i (nc := 0) (ns := 0) (mc := 0) (ms := 0) (N := mX12_mends) dX12_road_85 lv_X12_132 mo_X12_mends hR.cn (Nat.le_of_ble_eq_true rfl) (Nat.le_of_ble_eq_true rfl) (by decide) (s_mends D hR (a) (a + 1 + i) (by omega) (by omega) (by omega) (nI (1))) (fun h hP => ?_)
      obtain ⟨hR, hF1⟩ := hP
      have hF := hF.trans hF1
      have hY := YW_upd (x := nI 1) (YW_upd (x := nI 1) hY (k := 48 + 8 * (a + 1 + i) + a) (by unfold FI; omega)) (k := 48 + 8 * a + (a + 1 + i)) (by unfold FI; omega)
      refine e_istore dX12_road_88 (by decide) ?_
      refine e_aload_n dX12_road_90 rfl ?_
      refine e_aload_n dX12_road_91 rfl ?_
      refine e_iload_n dX12_road_92 rfl ?_
      refine e_top (nI (tn n)) (hn_n) ?_
      refine c_V1i (nc := 0) (ns := 0) (mc := 0) (ms := 0) (N := mX12_ahead) dX12_road_93 lv_X12_284 mo_X12_ahead hR.cn (Nat.le_of_ble_eq_true rfl) (Nat.le_of_ble_eq_true rfl) (by decide) (s_ahead D hR hY (tn n) (by omega)) (fun h hP => ?_)
      have hG9 := hS.2.1.1
      obtain ⟨σ, hR, hE1, hF1⟩ := hP
      have hF := hF.trans hF1
      rw [hG9] at hR
      have hR : RefAt h (yrX (sN s) (upd (upd (sN s) (48 + 8 * (a + 1 + i) + a) (nI (1))) (48 + 8 * a + (a + 1 + i)) (nI (1))) (tn n)) σ τ := hR
      have hA2 := (hE1 2 (by decide) (by decide) (by decide)).trans hA2
      have hS := hS.to (fun i hi => hE1 i hi.2.1 hi.2.2.2.1 hi.2.2.2.2.1) rfl rfl
      have hY : YW (yrX (sN s) (upd (upd (sN s) (48 + 8 * (a + 1 + i) + a) (nI (1))) (48 + 8 * a + (a + 1 + i)) (nI (1))) (tn n)) (nvN (sN s)) (tcN (sN s)) (txN (sN s)) := yrsR_YW G0 hY _
      refine e_top (ppN (yrX (sN s) (upd (upd (sN s) (48 + 8 * (a + 1 + i) + a) (nI (1))) (48 + 8 * a + (a + 1 + i)) (nI (1))) (tn n)) (nvN (sN s))) (by rw [hG9]; rfl) ?_
      refine c_V1i (nc := 0) (ns := 0) (mc := 0) (ms := 0) (N := mX12_back) dX12_road_96 lv_X12_290 mo_X12_back hR.cn (Nat.le_of_ble_eq_true rfl) (Nat.le_of_ble_eq_true rfl) (by decide) (s_back D hR ((ppN (yrX (sN s) (upd (upd (sN s) (48 + 8 * (a + 1 + i) + a) (nI (1))) (48 + 8 * a + (a + 1 + i)) (nI (1))) (tn n)) (nvN (sN s))))) (fun h hP => ?_)
      obtain ⟨hR, hF1⟩ := hP
      have hF := hF.trans hF1
      rw [hA2] at hR
      have hY := hI.1.1
      refine e_istore dX12_road_99 (by decide) ?_
      refine e_iload_n dX12_road_101 rfl ?_
      refine e_if_lt 111 dX12_road_102 (by decide) (fun hcq102 => ?_) (fun hcq102 => ?_)
      · refine e_bipush (nI (10)) dX12_road_111 (by decide) ?_
        refine e_iload dX12_road_113 rfl ?_
        refine e_imulN dX12_road_115 ?_
        refine e_iload dX12_road_116 rfl ?_
        refine e_iaddN dX12_road_118 ?_
        refine e_istore_n dX12_road_119 (by decide) ?_
        refine e_iload dX12_road_120 rfl ?_
        refine e_istore_n dX12_road_122 (by decide) ?_
        refine e_iincN (a + 1 + i + 1) dX12_road_123 rfl (by decide) (nI_add _ _) ?_
        refine e_goto 49 dX12_road_126 (by decide) ?_
        refine Ev.drop 6 (Ev.drop 7 ?_)
        exact ih (i + 1) h σ (nI ((10 * a) + (a + 1 + i)), (ppN (yrX (sN s) (upd (upd (sN s) (48 + 8 * (a + 1 + i) + a) (nI (1))) (48 + 8 * a + (a + 1 + i)) (nI (1))) (tn n)) (nvN (sN s)))) (by omega) hR hF hS hA2 (by rw [rdI, ← hq]; exact ((if_pos hcq76).trans (if_pos hcq102)).symm)
      · refine e_iload dX12_road_105 rfl ?_
        refine e_iload_n dX12_road_107 rfl ?_
        refine e_icmp_le 123 dX12_road_108 (by decide) (fun hcq108 => ?_) (fun hcq108 => ?_)
        · refine e_iincN (a + 1 + i + 1) dX12_road_123 rfl (by decide) (nI_add _ _) ?_
          refine e_goto 49 dX12_road_126 (by decide) ?_
          refine Ev.drop 6 (Ev.drop 7 ?_)
          exact ih (i + 1) h σ q (by omega) hR hF hS hA2 (by rw [rdI, ← hq]; exact ((if_pos hcq76).trans ((if_neg hcq102).trans (if_pos hcq108))).symm)
        · refine e_bipush (nI (10)) dX12_road_111 (by decide) ?_
          refine e_iload dX12_road_113 rfl ?_
          refine e_imulN dX12_road_115 ?_
          refine e_iload dX12_road_116 rfl ?_
          refine e_iaddN dX12_road_118 ?_
          refine e_istore_n dX12_road_119 (by decide) ?_
          refine e_iload dX12_road_120 rfl ?_
          refine e_istore_n dX12_road_122 (by decide) ?_
          refine e_iincN (a + 1 + i + 1) dX12_road_123 rfl (by decide) (nI_add _ _) ?_
          refine e_goto 49 dX12_road_126 (by decide) ?_
          refine Ev.drop 6 (Ev.drop 7 ?_)
          exact ih (i + 1) h σ (nI ((10 * a) + (a + 1 + i)), (ppN (yrX (sN s) (upd (upd (sN s) (48 + 8 * (a + 1 + i) + a) (nI (1))) (48 + 8 * a + (a + 1 + i)) (nI (1))) (tn n)) (nvN (sN s)))) (by omega) hR hF hS hA2 (by rw [rdI, ← hq]; exact ((if_pos hcq76).trans ((if_neg hcq102).trans (if_neg hcq108))).symm)
set_option maxRecDepth 20000 in
theorem lp_roadO (D : En) {s : SS} {τ : Nat → Int32} {h00 : AH} (hI : INV s) {post : Option Value → AH → Prop} (n : Int32) (hn_n : n = nI (tn n)) (hl_n : tn n ≤ 40) (kk : ∀ h σ, RefAt h (sN s) σ τ → FrR h00 h → RS σ τ s → σ 2 = sN s → Ev D 9 mX12_road 135 [some (.ref 82), some (.int n), some (.int (rdO (sN s) (tn n) (nvN (sN s))).1), some (.int (rdO (sN s) (tn n) (nvN (sN s))).2), none, none, none, none] [] h 0 0 post) : ∀ (j : Nat) (a : Nat) (h : AH) (σ : Nat → Nat → Int32) (q : Int32 × Int32), (a + j = nvN (sN s)) → (RefAt h (sN s) σ τ) → (FrR h00 h) → (RS σ τ s) → (σ 2 = sN s) → (q = rdO (sN s) (tn n) a) → Ev D 9 mX12_road 32 [some (.ref (82)), some (.int (n)), some (.int (q.1)), some (.int (q.2)), some (.int (nI (a))), none, none, none] [] h 0 0 post := by
  intro j
  induction j with
  | zero =>
    intro a h σ q hm hR hF hS hA2 hq
    have hY := hI.1.1
    have hnv := hY.2.1
    have htc10 := hY.2.2.2.1
    refine e_iload dX12_road_32 rfl ?_
    refine e_aload_n dX12_road_34 rfl ?_
    refine e_get dX12_road_35 fl_X12_9_12 hR.1 rfl ?_
    refine e_iconst (nI (1)) dX12_road_38 (by decide) ?_
    refine e_ild (1) (nI (nvN (sN s))) dX12_road_39 hR.2.1 rfl (by omega) (by decide) hY.1 ?_
    refine e_icmp_geN 135 dX12_road_40 (by decide) (by omega) (by omega) (fun hcq40 => ?_) (fun hcq40 => absurd hcq40 (by omega))
    rw [show a = nvN (sN s) by omega] at hq
    rw [hq]
    exact Ev.drop 4 (kk h σ hR hF hS hA2)
  | succ j ih =>
    intro a h σ q hm hR hF hS hA2 hq
    have hY := hI.1.1
    have hnv := hY.2.1
    have htc10 := hY.2.2.2.1
    refine e_iload dX12_road_32 rfl ?_
    refine e_aload_n dX12_road_34 rfl ?_
    refine e_get dX12_road_35 fl_X12_9_12 hR.1 rfl ?_
    refine e_iconst (nI (1)) dX12_road_38 (by decide) ?_
    refine e_ild (1) (nI (nvN (sN s))) dX12_road_39 hR.2.1 rfl (by omega) (by decide) hY.1 ?_
    refine e_icmp_geN 135 dX12_road_40 (by decide) (by omega) (by omega) (fun hcq40 => absurd hcq40 (by omega)) (fun hcq40 => ?_)
    refine e_iload dX12_road_43 rfl ?_
    refine e_iconst (nI (1)) dX12_road_45 (by decide) ?_
    refine e_iaddN dX12_road_46 ?_
    refine e_istore dX12_road_47 (by decide) ?_
    refine lp_roadI D hI n hn_n hl_n a (by omega) q (fun h σ hR hF hS hA2 => ?_) (nvN (sN s) - (a + 1)) 0 h σ q (by omega) hR hF hS hA2 rfl
    refine e_iincN (a + 1) dX12_road_129 rfl (by decide) (nI_add _ _) ?_
    refine e_goto 32 dX12_road_132 (by decide) ?_
    exact ih (a + 1) h σ (rdI (sN s) (tn n) a q (nvN (sN s) - (a + 1))) (by omega) hR hF hS hA2 (by rw [rdO, ← hq])
set_option maxRecDepth 20000 in
theorem rp_road (D : En) {h : AH} {s : SS} (hI : INV s) (hRS : RefS h s) (n : Int32) : Sp D 9 mX12_road [.ref (82), .int (n)] h 0 0 (some (.int (f_road s n).1)) (fun h' => RefS h' (f_road s n).2 ∧ FrR h h') := by
  obtain ⟨σ, τ, hR, hS⟩ := hRS
  have hY := hI.1.1
  have hnv := hY.2.1
  have htc10 := hY.2.2.2.1
  obtain ⟨h00, hh00⟩ : ∃ z, z = h := ⟨_, rfl⟩
  have hF : FrR h00 h := by rw [hh00]; exact FrR.rf
  intro post hp
  rw [← hh00] at hp
  show Ev D 9 mX12_road 0 [some (.ref (82)), some (.int (n)), none, none, none, none, none, none] [] h 0 0 post
  refine e_iload_n dX12_road_0 rfl ?_
  refine c_S1iR (N := mX12_isAhead) dX12_road_1 ls_X12_281 mo_X12_isAhead  (Nat.le_of_ble_eq_true rfl) (Nat.le_of_ble_eq_true rfl) (by decide) (s_isAhead D ((n))) ?_
  refine e_if_neB 14 dX12_road_4 (by decide) (fun hcq4 => ?_) (fun hcq4 => ?_)
  · obtain ⟨hn_n, hg_n, hl_n⟩ := wiN hcq4 (by decide) (by decide)
    refine e_aload_n dX12_road_14 rfl ?_
    refine e_get dX12_road_15 fl_X12_9_12 hR.1 rfl ?_
    refine e_aload_n dX12_road_18 rfl ?_
    refine e_get dX12_road_19 fl_X12_16_12 hR.1 rfl ?_
    refine c_S2v (nc := 0) (ns := 0) (mc := 0) (ms := 0) (N := mX12_copy) dX12_road_22 ls_X12_277 mo_X12_copy  (Nat.le_of_ble_eq_true rfl) (Nat.le_of_ble_eq_true rfl) (by decide) (s_copyNA D hR) (fun h hP => ?_)
    obtain ⟨hR, hF1⟩ := hP
    have hF := hF.trans hF1
    obtain ⟨σ, hR, hA2, hS⟩ : ∃ z, RefAt h (sN s) z τ ∧ z 2 = sN s ∧ RS z τ s := ⟨_, hR, va_upS _ _ _, hS.to (fun i hi => va_upN _ _ hi.1) rfl rfl⟩
    refine e_iconst (((-1))) dX12_road_25 (by decide) ?_
    refine e_istore_n dX12_road_26 (by decide) ?_
    refine e_iconst (nI (0)) dX12_road_27 (by decide) ?_
    refine e_istore_n dX12_road_28 (by decide) ?_
    refine e_iconst (nI (0)) dX12_road_29 (by decide) ?_
    refine e_istore dX12_road_30 (by decide) ?_
    refine lp_roadO D hI n hn_n (by omega) (fun h σ hR hF hS hA2 => ?_) (nvN (sN s)) 0 h σ ((-1), nI 0) (by omega) hR hF hS hA2 rfl
    refine e_iload_n dX12_road_135 rfl ?_
    refine e_if_ge 148 dX12_road_136 (by decide) (fun hcq136 => ?_) (fun hcq136 => ?_)
    · refine e_iload_n dX12_road_148 rfl ?_
      have e9 : f_road s n = (((rdO (sN s) (tn n) (nvN (sN s))).1), s) := by rw [f_road, if_pos hcq4, if_pos hcq136]
      rw [e9] at hp
      exact e_iret dX12_road_149 rfl (hp _ ⟨⟨_, _, hR, hS⟩, hF⟩)
    · refine e_aload_n dX12_road_139 rfl ?_
      refine e_ldc dX12_road_140 w_1340 ?_
      refine c_V1i (nc := 0) (ns := 0) (mc := 0) (ms := 0) (N := mX12_finding) dX12_road_142 lv_X12_90 mo_X12_finding hR.cn (Nat.le_of_ble_eq_true rfl) (Nat.le_of_ble_eq_true rfl) (by decide) (s_finding D hR 2 (by decide) (((-1000000002))) fE2) (fun h hP => ?_)
      obtain ⟨hR, hF1⟩ := hP
      have hF := hF.trans hF1
      have hS := hS.er 2
      refine e_top (lowE 2) lE2 ?_
      refine e_goto 149 dX12_road_145 (by decide) ?_
      have e9 : f_road s n = er 2 (s) := by rw [f_road, if_pos hcq4, if_neg hcq136]
      rw [e9] at hp
      exact e_iret dX12_road_149 rfl (hp _ ⟨⟨_, _, hR, hS⟩, hF⟩)
  · refine e_aload_n dX12_road_7 rfl ?_
    refine e_ldc dX12_road_8 w_1294 ?_
    refine c_V1i (nc := 0) (ns := 0) (mc := 0) (ms := 0) (N := mX12_finding) dX12_road_10 lv_X12_90 mo_X12_finding hR.cn (Nat.le_of_ble_eq_true rfl) (Nat.le_of_ble_eq_true rfl) (by decide) (s_finding D hR 1 (by decide) (((-1000000001))) fE1) (fun h hP => ?_)
    obtain ⟨hR, hF1⟩ := hP
    have hF := hF.trans hF1
    have hS := hS.er 1
    refine e_top (lowE 1) lE1 ?_
    have e9 : f_road s n = er 1 (s) := by rw [f_road, if_neg hcq4]
    rw [e9] at hp
    exact e_iret dX12_road_13 rfl (hp _ ⟨⟨_, _, hR, hS⟩, hF⟩)
set_option maxRecDepth 20000 in
theorem lp_when (D : En) {s : SS} {τ : Nat → Int32} {h00 : AH} (hI : INV s) {post : Option Value → AH → Prop} (t n : Int32) (hn_t : t = nI (tn t)) (hl_t : tn t < tcN (sN s)) (hn_n : n = nI (tn n)) (hl_n : tn n ≤ 40) (hp : ∀ h' σ', RefAt h' (sN s) σ' τ → FrR h00 h' → RS σ' τ s → post (some (.int (wnW (sN s) (tn t) (tn n) (tn n + 1)).1)) h') : ∀ (j : Nat) (k : Nat) (h : AH) (σ : Nat → Nat → Int32) (q : Int32 × Int32), (k + j = tn n + 1) → (RefAt h (sN s) σ τ) → (FrR h00 h) → (RS σ τ s) → (σ 2 = sN s) → (q = wnW (sN s) (tn t) (tn n) k) → Ev D 9 mX12_when 58 [some (.ref (82)), some (.int (t)), some (.int (n)), some (.int (q.1)), some (.int (q.2)), some (.int (nI (k))), none] [] h 0 0 post := by
  intro j
  induction j with
  | zero =>
    intro k h σ q hm hR hF hS hA2 hq
    have hY := hI.1.1
    have hnv := hY.2.1
    have htc10 := hY.2.2.2.1
    refine e_iload dX12_when_58 rfl ?_
    refine e_iload_n dX12_when_60 rfl ?_
    refine e_top (nI (tn n)) (hn_n) ?_
    refine e_icmp_gtN 141 dX12_when_61 (by decide) (by omega) (by omega) (fun hcq61 => ?_) (fun hcq61 => absurd hcq61 (by omega))
    refine e_iload_n dX12_when_141 rfl ?_
    rw [show k = tn n + 1 by omega] at hq
    exact e_iret dX12_when_142 rfl (by rw [hq]; exact hp _ _ hR hF hS)
  | succ j ih =>
    intro k h σ q hm hR hF hS hA2 hq
    have hY := hI.1.1
    have hnv := hY.2.1
    have htc10 := hY.2.2.2.1
    refine e_iload dX12_when_58 rfl ?_
    refine e_iload_n dX12_when_60 rfl ?_
    refine e_top (nI (tn n)) (hn_n) ?_
    refine e_icmp_gtN 141 dX12_when_61 (by decide) (by omega) (by omega) (fun hcq61 => absurd hcq61 (by omega)) (fun hcq61 => ?_)
    refine e_aload_n dX12_when_64 rfl ?_
    refine e_iload dX12_when_65 rfl ?_
    refine c_V1i (nc := 0) (ns := 0) (mc := 0) (ms := 0) (N := mX12_ahead) dX12_when_67 lv_X12_284 mo_X12_ahead hR.cn (Nat.le_of_ble_eq_true rfl) (Nat.le_of_ble_eq_true rfl) (by decide) (s_ahead D hR hY (k) (by omega)) (fun h hP => ?_)
    have hG9 := hS.2.1.1
    obtain ⟨σ, hR, hE1, hF1⟩ := hP
    have hF := hF.trans hF1
    rw [hG9] at hR
    have hR : RefAt h (yrX (sN s) (sN s) (k)) σ τ := hR
    have hA2 := (hE1 2 (by decide) (by decide) (by decide)).trans hA2
    have hS := hS.to (fun i hi => hE1 i hi.2.1 hi.2.2.2.1 hi.2.2.2.2.1) rfl rfl
    have hY : YW (yrX (sN s) (sN s) (k)) (nvN (sN s)) (tcN (sN s)) (txN (sN s)) := yrsR_YW G0 hY _
    refine e_top (ppN (yrX (sN s) (sN s) (k)) (nvN (sN s))) (by rw [hG9]; rfl) ?_
    refine e_istore dX12_when_70 (by decide) ?_
    refine e_aload_n dX12_when_72 rfl ?_
    refine e_iload_n dX12_when_73 rfl ?_
    refine e_top (nI (tn t)) (hn_t) ?_
    refine e_iload dX12_when_74 rfl ?_
    refine e_iload_n dX12_when_76 rfl ?_
    refine e_top (nI (tn n)) (hn_n) ?_
    refine e_icmp_neN 92 dX12_when_77 (by decide) (by omega) (by omega) (fun hcq77 => ?_) (fun hcq77 => ?_)
    · refine e_iconst (nI (0)) dX12_when_92 (by decide) ?_
      refine c_V2v (nc := 0) (ns := 0) (mc := 0) (ms := 0) (N := mX12_opens) dX12_when_93 lv_X12_246 mo_X12_opens hR.cn (Nat.le_of_ble_eq_true rfl) (Nat.le_of_ble_eq_true rfl) (by decide) (s_opens D hR (tn t) (by omega) (nI (0))) (fun h hP => ?_)
      obtain ⟨hR, hF1⟩ := hP
      have hF := hF.trans hF1
      rw [if_pos (by decide)] at hR
      have hY := YW_upd (x := nI 0) hY (k := 112 + 7 * (tn t) + 5) (by unfold FI; omega)
      refine e_aload_n dX12_when_96 rfl ?_
      refine e_iload_n dX12_when_97 rfl ?_
      refine e_top (nI (tn n)) (hn_n) ?_
      refine e_iload dX12_when_98 rfl ?_
      refine e_isubN dX12_when_100 (by omega) ?_
      refine c_V1i (nc := 0) (ns := 0) (mc := 0) (ms := 0) (N := mX12_ahead) dX12_when_101 lv_X12_284 mo_X12_ahead hR.cn (Nat.le_of_ble_eq_true rfl) (Nat.le_of_ble_eq_true rfl) (by decide) (s_ahead D hR hY ((tn n) - k) (by omega)) (fun h hP => ?_)
      have hG9 := hS.2.1.1
      obtain ⟨σ, hR, hE1, hF1⟩ := hP
      have hF := hF.trans hF1
      rw [hG9] at hR
      have hR : RefAt h (yrX (sN s) (upd (yrX (sN s) (sN s) (k)) (112 + 7 * (tn t) + 5) (nI 0)) ((tn n) - k)) σ τ := hR
      have hA2 := (hE1 2 (by decide) (by decide) (by decide)).trans hA2
      have hS := hS.to (fun i hi => hE1 i hi.2.1 hi.2.2.2.1 hi.2.2.2.2.1) rfl rfl
      have hY : YW (yrX (sN s) (upd (yrX (sN s) (sN s) (k)) (112 + 7 * (tn t) + 5) (nI 0)) ((tn n) - k)) (nvN (sN s)) (tcN (sN s)) (txN (sN s)) := yrsR_YW G0 hY _
      refine e_top (ppN (yrX (sN s) (upd (yrX (sN s) (sN s) (k)) (112 + 7 * (tn t) + 5) (nI 0)) ((tn n) - k)) (nvN (sN s))) (by rw [hG9]; rfl) ?_
      refine e_istore dX12_when_104 (by decide) ?_
      refine e_aload_n dX12_when_106 rfl ?_
      refine e_get dX12_when_107 fl_X12_16_12 hR.1 rfl ?_
      refine e_aload_n dX12_when_110 rfl ?_
      refine e_get dX12_when_111 fl_X12_9_12 hR.1 rfl ?_
      refine c_S2v (nc := 0) (ns := 0) (mc := 0) (ms := 0) (N := mX12_copy) dX12_when_114 ls_X12_277 mo_X12_copy  (Nat.le_of_ble_eq_true rfl) (Nat.le_of_ble_eq_true rfl) (by decide) (s_copyAN D hR) (fun h hP => ?_)
      obtain ⟨hR, hF1⟩ := hP
      have hF := hF.trans hF1
      rw [hA2] at hR
      have hY := hI.1.1
      refine e_iload_n dX12_when_117 rfl ?_
      refine e_if_lt 128 dX12_when_118 (by decide) (fun hcq118 => ?_) (fun hcq118 => ?_)
      · refine e_iload dX12_when_128 rfl ?_
        refine e_istore_n dX12_when_130 (by decide) ?_
        refine e_iload dX12_when_131 rfl ?_
        refine e_istore dX12_when_133 (by decide) ?_
        refine e_iincN (k + 1) dX12_when_135 rfl (by decide) (nI_add _ _) ?_
        refine e_goto 58 dX12_when_138 (by decide) ?_
        have eX9 : wnX (sN s) (tn t) (tn n) k = nI 0 := if_neg hcq77
        have eL9 : wnL (sN s) (tn t) (tn n) k = ppN (yrX (sN s) (upd (yrX (sN s) (sN s) (k)) (112 + 7 * (tn t) + 5) (nI 0)) ((tn n) - k)) (nvN (sN s)) := by rw [wnL, eX9]; rfl
        refine Ev.drop 6 ?_
        exact ih (k + 1) h σ (nI (k), (ppN (yrX (sN s) (upd (yrX (sN s) (sN s) (k)) (112 + 7 * (tn t) + 5) (nI 0)) ((tn n) - k)) (nvN (sN s)))) (by omega) hR hF hS hA2 (by rw [wnW, ← hq, wnS, eL9]; exact (if_pos hcq118).symm)
      · refine e_iload dX12_when_121 rfl ?_
        refine e_iload dX12_when_123 rfl ?_
        refine e_icmp_le 135 dX12_when_125 (by decide) (fun hcq125 => ?_) (fun hcq125 => ?_)
        · refine e_iincN (k + 1) dX12_when_135 rfl (by decide) (nI_add _ _) ?_
          refine e_goto 58 dX12_when_138 (by decide) ?_
          have eX9 : wnX (sN s) (tn t) (tn n) k = nI 0 := if_neg hcq77
          have eL9 : wnL (sN s) (tn t) (tn n) k = ppN (yrX (sN s) (upd (yrX (sN s) (sN s) (k)) (112 + 7 * (tn t) + 5) (nI 0)) ((tn n) - k)) (nvN (sN s)) := by rw [wnL, eX9]; rfl
          refine Ev.drop 6 ?_
          exact ih (k + 1) h σ q (by omega) hR hF hS hA2 (by rw [wnW, ← hq, wnS, eL9]; exact ((if_neg hcq118).trans (if_pos hcq125)).symm)
        · refine e_iload dX12_when_128 rfl ?_
          refine e_istore_n dX12_when_130 (by decide) ?_
          refine e_iload dX12_when_131 rfl ?_
          refine e_istore dX12_when_133 (by decide) ?_
          refine e_iincN (k + 1) dX12_when_135 rfl (by decide) (nI_add _ _) ?_
          refine e_goto 58 dX12_when_138 (by decide) ?_
          have eX9 : wnX (sN s) (tn t) (tn n) k = nI 0 := if_neg hcq77
          have eL9 : wnL (sN s) (tn t) (tn n) k = ppN (yrX (sN s) (upd (yrX (sN s) (sN s) (k)) (112 + 7 * (tn t) + 5) (nI 0)) ((tn n) - k)) (nvN (sN s)) := by rw [wnL, eX9]; rfl
          refine Ev.drop 6 ?_
          exact ih (k + 1) h σ (nI (k), (ppN (yrX (sN s) (upd (yrX (sN s) (sN s) (k)) (112 + 7 * (tn t) + 5) (nI 0)) ((tn n) - k)) (nvN (sN s)))) (by omega) hR hF hS hA2 (by rw [wnW, ← hq, wnS, eL9]; exact ((if_neg hcq118).trans (if_neg hcq125)).symm)
    · refine e_aload_n dX12_when_80 rfl ?_
      refine e_iload_n dX12_when_81 rfl ?_
      refine e_top (nI (tn t)) (hn_t) ?_
      refine c_V1iR (N := mX12_isOpen) dX12_when_82 lv_X12_158 mo_X12_isOpen hR.cn (Nat.le_of_ble_eq_true rfl) (Nat.le_of_ble_eq_true rfl) (by decide) (s_isOpen D hR (tn t) (by omega)) ?_
      refine e_if_eqB 92 dX12_when_85 (by decide) (fun hcq85 => ?_) (fun hcq85 => ?_)
      · refine e_iconst (nI (0)) dX12_when_92 (by decide) ?_
        refine c_V2v (nc := 0) (ns := 0) (mc := 0) (ms := 0) (N := mX12_opens) dX12_when_93 lv_X12_246 mo_X12_opens hR.cn (Nat.le_of_ble_eq_true rfl) (Nat.le_of_ble_eq_true rfl) (by decide) (s_opens D hR (tn t) (by omega) (nI (0))) (fun h hP => ?_)
        obtain ⟨hR, hF1⟩ := hP
        have hF := hF.trans hF1
        rw [if_pos (by decide)] at hR
        have hY := YW_upd (x := nI 0) hY (k := 112 + 7 * (tn t) + 5) (by unfold FI; omega)
        refine e_aload_n dX12_when_96 rfl ?_
        refine e_iload_n dX12_when_97 rfl ?_
        refine e_top (nI (tn n)) (hn_n) ?_
        refine e_iload dX12_when_98 rfl ?_
        refine e_isubN dX12_when_100 (by omega) ?_
        refine c_V1i (nc := 0) (ns := 0) (mc := 0) (ms := 0) (N := mX12_ahead) dX12_when_101 lv_X12_284 mo_X12_ahead hR.cn (Nat.le_of_ble_eq_true rfl) (Nat.le_of_ble_eq_true rfl) (by decide) (s_ahead D hR hY ((tn n) - k) (by omega)) (fun h hP => ?_)
        have hG9 := hS.2.1.1
        obtain ⟨σ, hR, hE1, hF1⟩ := hP
        have hF := hF.trans hF1
        rw [hG9] at hR
        have hR : RefAt h (yrX (sN s) (upd (yrX (sN s) (sN s) (k)) (112 + 7 * (tn t) + 5) (nI 0)) ((tn n) - k)) σ τ := hR
        have hA2 := (hE1 2 (by decide) (by decide) (by decide)).trans hA2
        have hS := hS.to (fun i hi => hE1 i hi.2.1 hi.2.2.2.1 hi.2.2.2.2.1) rfl rfl
        have hY : YW (yrX (sN s) (upd (yrX (sN s) (sN s) (k)) (112 + 7 * (tn t) + 5) (nI 0)) ((tn n) - k)) (nvN (sN s)) (tcN (sN s)) (txN (sN s)) := yrsR_YW G0 hY _
        refine e_top (ppN (yrX (sN s) (upd (yrX (sN s) (sN s) (k)) (112 + 7 * (tn t) + 5) (nI 0)) ((tn n) - k)) (nvN (sN s))) (by rw [hG9]; rfl) ?_
        refine e_istore dX12_when_104 (by decide) ?_
        refine e_aload_n dX12_when_106 rfl ?_
        refine e_get dX12_when_107 fl_X12_16_12 hR.1 rfl ?_
        refine e_aload_n dX12_when_110 rfl ?_
        refine e_get dX12_when_111 fl_X12_9_12 hR.1 rfl ?_
        refine c_S2v (nc := 0) (ns := 0) (mc := 0) (ms := 0) (N := mX12_copy) dX12_when_114 ls_X12_277 mo_X12_copy  (Nat.le_of_ble_eq_true rfl) (Nat.le_of_ble_eq_true rfl) (by decide) (s_copyAN D hR) (fun h hP => ?_)
        obtain ⟨hR, hF1⟩ := hP
        have hF := hF.trans hF1
        rw [hA2] at hR
        have hY := hI.1.1
        refine e_iload_n dX12_when_117 rfl ?_
        refine e_if_lt 128 dX12_when_118 (by decide) (fun hcq118 => ?_) (fun hcq118 => ?_)
        · refine e_iload dX12_when_128 rfl ?_
          refine e_istore_n dX12_when_130 (by decide) ?_
          refine e_iload dX12_when_131 rfl ?_
          refine e_istore dX12_when_133 (by decide) ?_
          refine e_iincN (k + 1) dX12_when_135 rfl (by decide) (nI_add _ _) ?_
          refine e_goto 58 dX12_when_138 (by decide) ?_
          have eX9 : wnX (sN s) (tn t) (tn n) k = nI 0 := (if_pos hcq77).trans (if_neg hcq85)
          have eL9 : wnL (sN s) (tn t) (tn n) k = ppN (yrX (sN s) (upd (yrX (sN s) (sN s) (k)) (112 + 7 * (tn t) + 5) (nI 0)) ((tn n) - k)) (nvN (sN s)) := by rw [wnL, eX9]; rfl
          refine Ev.drop 6 ?_
          exact ih (k + 1) h σ (nI (k), (ppN (yrX (sN s) (upd (yrX (sN s) (sN s) (k)) (112 + 7 * (tn t) + 5) (nI 0)) ((tn n) - k)) (nvN (sN s)))) (by omega) hR hF hS hA2 (by rw [wnW, ← hq, wnS, eL9]; exact (if_pos hcq118).symm)
        · refine e_iload dX12_when_121 rfl ?_
          refine e_iload dX12_when_123 rfl ?_
          refine e_icmp_le 135 dX12_when_125 (by decide) (fun hcq125 => ?_) (fun hcq125 => ?_)
          · refine e_iincN (k + 1) dX12_when_135 rfl (by decide) (nI_add _ _) ?_
            refine e_goto 58 dX12_when_138 (by decide) ?_
            have eX9 : wnX (sN s) (tn t) (tn n) k = nI 0 := (if_pos hcq77).trans (if_neg hcq85)
            have eL9 : wnL (sN s) (tn t) (tn n) k = ppN (yrX (sN s) (upd (yrX (sN s) (sN s) (k)) (112 + 7 * (tn t) + 5) (nI 0)) ((tn n) - k)) (nvN (sN s)) := by rw [wnL, eX9]; rfl
            refine Ev.drop 6 ?_
            exact ih (k + 1) h σ q (by omega) hR hF hS hA2 (by rw [wnW, ← hq, wnS, eL9]; exact ((if_neg hcq118).trans (if_pos hcq125)).symm)
          · refine e_iload dX12_when_128 rfl ?_
            refine e_istore_n dX12_when_130 (by decide) ?_
            refine e_iload dX12_when_131 rfl ?_
            refine e_istore dX12_when_133 (by decide) ?_
            refine e_iincN (k + 1) dX12_when_135 rfl (by decide) (nI_add _ _) ?_
            refine e_goto 58 dX12_when_138 (by decide) ?_
            have eX9 : wnX (sN s) (tn t) (tn n) k = nI 0 := (if_pos hcq77).trans (if_neg hcq85)
            have eL9 : wnL (sN s) (tn t) (tn n) k = ppN (yrX (sN s) (upd (yrX (sN s) (sN s) (k)) (112 + 7 * (tn t) + 5) (nI 0)) ((tn n) - k)) (nvN (sN s)) := by rw [wnL, eX9]; rfl
            refine Ev.drop 6 ?_
            exact ih (k + 1) h σ (nI (k), (ppN (yrX (sN s) (upd (yrX (sN s) (sN s) (k)) (112 + 7 * (tn t) + 5) (nI 0)) ((tn n) - k)) (nvN (sN s)))) (by omega) hR hF hS hA2 (by rw [wnW, ← hq, wnS, eL9]; exact ((if_neg hcq118).trans (if_neg hcq125)).symm)
      · refine e_iconst (nI (1)) dX12_when_88 (by decide) ?_
        refine e_goto 93 dX12_when_89 (by decide) ?_
        refine c_V2v (nc := 0) (ns := 0) (mc := 0) (ms := 0) (N := mX12_opens) dX12_when_93 lv_X12_246 mo_X12_opens hR.cn (Nat.le_of_ble_eq_true rfl) (Nat.le_of_ble_eq_true rfl) (by decide) (s_opens D hR (tn t) (by omega) (nI (1))) (fun h hP => ?_)
        obtain ⟨hR, hF1⟩ := hP
        have hF := hF.trans hF1
        rw [if_neg (by decide)] at hR
        have hY := YW_upd (x := nI 1) hY (k := 112 + 7 * (tn t) + 5) (by unfold FI; omega)
        refine e_aload_n dX12_when_96 rfl ?_
        refine e_iload_n dX12_when_97 rfl ?_
        refine e_top (nI (tn n)) (hn_n) ?_
        refine e_iload dX12_when_98 rfl ?_
        refine e_isubN dX12_when_100 (by omega) ?_
        refine c_V1i (nc := 0) (ns := 0) (mc := 0) (ms := 0) (N := mX12_ahead) dX12_when_101 lv_X12_284 mo_X12_ahead hR.cn (Nat.le_of_ble_eq_true rfl) (Nat.le_of_ble_eq_true rfl) (by decide) (s_ahead D hR hY ((tn n) - k) (by omega)) (fun h hP => ?_)
        have hG9 := hS.2.1.1
        obtain ⟨σ, hR, hE1, hF1⟩ := hP
        have hF := hF.trans hF1
        rw [hG9] at hR
        have hR : RefAt h (yrX (sN s) (upd (yrX (sN s) (sN s) (k)) (112 + 7 * (tn t) + 5) (nI 1)) ((tn n) - k)) σ τ := hR
        have hA2 := (hE1 2 (by decide) (by decide) (by decide)).trans hA2
        have hS := hS.to (fun i hi => hE1 i hi.2.1 hi.2.2.2.1 hi.2.2.2.2.1) rfl rfl
        have hY : YW (yrX (sN s) (upd (yrX (sN s) (sN s) (k)) (112 + 7 * (tn t) + 5) (nI 1)) ((tn n) - k)) (nvN (sN s)) (tcN (sN s)) (txN (sN s)) := yrsR_YW G0 hY _
        refine e_top (ppN (yrX (sN s) (upd (yrX (sN s) (sN s) (k)) (112 + 7 * (tn t) + 5) (nI 1)) ((tn n) - k)) (nvN (sN s))) (by rw [hG9]; rfl) ?_
        refine e_istore dX12_when_104 (by decide) ?_
        refine e_aload_n dX12_when_106 rfl ?_
        refine e_get dX12_when_107 fl_X12_16_12 hR.1 rfl ?_
        refine e_aload_n dX12_when_110 rfl ?_
        refine e_get dX12_when_111 fl_X12_9_12 hR.1 rfl ?_
        refine c_S2v (nc := 0) (ns := 0) (mc := 0) (ms := 0) (N := mX12_copy) dX12_when_114 ls_X12_277 mo_X12_copy  (Nat.le_of_ble_eq_true rfl) (Nat.le_of_ble_eq_true rfl) (by decide) (s_copyAN D hR) (fun h hP => ?_)
        obtain ⟨hR, hF1⟩ := hP
        have hF := hF.trans hF1
        rw [hA2] at hR
        have hY := hI.1.1
        refine e_iload_n dX12_when_117 rfl ?_
        refine e_if_lt 128 dX12_when_118 (by decide) (fun hcq118 => ?_) (fun hcq118 => ?_)
        · refine e_iload dX12_when_128 rfl ?_
          refine e_istore_n dX12_when_130 (by decide) ?_
          refine e_iload dX12_when_131 rfl ?_
          refine e_istore dX12_when_133 (by decide) ?_
          refine e_iincN (k + 1) dX12_when_135 rfl (by decide) (nI_add _ _) ?_
          refine e_goto 58 dX12_when_138 (by decide) ?_
          have eX9 : wnX (sN s) (tn t) (tn n) k = nI 1 := (if_pos hcq77).trans (if_pos hcq85)
          have eL9 : wnL (sN s) (tn t) (tn n) k = ppN (yrX (sN s) (upd (yrX (sN s) (sN s) (k)) (112 + 7 * (tn t) + 5) (nI 1)) ((tn n) - k)) (nvN (sN s)) := by rw [wnL, eX9]; rfl
          refine Ev.drop 6 ?_
          exact ih (k + 1) h σ (nI (k), (ppN (yrX (sN s) (upd (yrX (sN s) (sN s) (k)) (112 + 7 * (tn t) + 5) (nI 1)) ((tn n) - k)) (nvN (sN s)))) (by omega) hR hF hS hA2 (by rw [wnW, ← hq, wnS, eL9]; exact (if_pos hcq118).symm)
        · refine e_iload dX12_when_121 rfl ?_
          refine e_iload dX12_when_123 rfl ?_
          refine e_icmp_le 135 dX12_when_125 (by decide) (fun hcq125 => ?_) (fun hcq125 => ?_)
          · refine e_iincN (k + 1) dX12_when_135 rfl (by decide) (nI_add _ _) ?_
            refine e_goto 58 dX12_when_138 (by decide) ?_
            have eX9 : wnX (sN s) (tn t) (tn n) k = nI 1 := (if_pos hcq77).trans (if_pos hcq85)
            have eL9 : wnL (sN s) (tn t) (tn n) k = ppN (yrX (sN s) (upd (yrX (sN s) (sN s) (k)) (112 + 7 * (tn t) + 5) (nI 1)) ((tn n) - k)) (nvN (sN s)) := by rw [wnL, eX9]; rfl
            refine Ev.drop 6 ?_
            exact ih (k + 1) h σ q (by omega) hR hF hS hA2 (by rw [wnW, ← hq, wnS, eL9]; exact ((if_neg hcq118).trans (if_pos hcq125)).symm)
          · refine e_iload dX12_when_128 rfl ?_
            refine e_istore_n dX12_when_130 (by decide) ?_
            refine e_iload dX12_when_131 rfl ?_
            refine e_istore dX12_when_133 (by decide) ?_
            refine e_iincN (k + 1) dX12_when_135 rfl (by decide) (nI_add _ _) ?_
            refine e_goto 58 dX12_when_138 (by decide) ?_
            have eX9 : wnX (sN s) (tn t) (tn n) k = nI 1 := (if_pos hcq77).trans (if_pos hcq85)
            have eL9 : wnL (sN s) (tn t) (tn n) k = ppN (yrX (sN s) (upd (yrX (sN s) (sN s) (k)) (112 + 7 * (tn t) + 5) (nI 1)) ((tn n) - k)) (nvN (sN s)) := by rw [wnL, eX9]; rfl
            refine Ev.drop 6 ?_
            exact ih (k + 1) h σ (nI (k), (ppN (yrX (sN s) (upd (yrX (sN s) (sN s) (k)) (112 + 7 * (tn t) + 5) (nI 1)) ((tn n) - k)) (nvN (sN s)))) (by omega) hR hF hS hA2 (by rw [wnW, ← hq, wnS, eL9]; exact ((if_neg hcq118).trans (if_neg hcq125)).symm)
set_option maxRecDepth 20000 in
theorem rp_when (D : En) {h : AH} {s : SS} (hI : INV s) (hRS : RefS h s) (t : Int32) (n : Int32) : Sp D 9 mX12_when [.ref (82), .int (t), .int (n)] h 0 0 (some (.int (f_when s t n).1)) (fun h' => RefS h' (f_when s t n).2 ∧ FrR h h') := by
  obtain ⟨σ, τ, hR, hS⟩ := hRS
  have hY := hI.1.1
  have hnv := hY.2.1
  have htc10 := hY.2.2.2.1
  obtain ⟨h00, hh00⟩ : ∃ z, z = h := ⟨_, rfl⟩
  have hF : FrR h00 h := by rw [hh00]; exact FrR.rf
  intro post hp
  rw [← hh00] at hp
  show Ev D 9 mX12_when 0 [some (.ref (82)), some (.int (t)), some (.int (n)), none, none, none, none] [] h 0 0 post
  refine e_aload_n dX12_when_0 rfl ?_
  refine e_iload_n dX12_when_1 rfl ?_
  refine e_iconst (nI (2)) dX12_when_2 (by decide) ?_
  refine c_V2iR (N := mX12_is) dX12_when_3 lv_X12_103 mo_X12_is hR.cn (Nat.le_of_ble_eq_true rfl) (Nat.le_of_ble_eq_true rfl) (by decide) (s_is D hR ((t)) (2) (by omega)) ?_
  refine e_if_eqB 16 dX12_when_6 (by decide) (fun hcq6 => ?_) (fun hcq6 => ?_)
  · refine e_aload_n dX12_when_16 rfl ?_
    refine e_ldc dX12_when_17 w_1294 ?_
    refine c_V1i (nc := 0) (ns := 0) (mc := 0) (ms := 0) (N := mX12_finding) dX12_when_19 lv_X12_90 mo_X12_finding hR.cn (Nat.le_of_ble_eq_true rfl) (Nat.le_of_ble_eq_true rfl) (by decide) (s_finding D hR 1 (by decide) (((-1000000001))) fE1) (fun h hP => ?_)
    obtain ⟨hR, hF1⟩ := hP
    have hF := hF.trans hF1
    have hS := hS.er 1
    refine e_top (lowE 1) lE1 ?_
    have e9 : f_when s t n = er 1 (s) := by rw [f_when, if_neg hcq6]
    rw [e9] at hp
    exact e_iret dX12_when_22 rfl (hp _ ⟨⟨_, _, hR, hS⟩, hF⟩)
  · obtain ⟨hn_t, hl_t⟩ := isN hcq6 hY.2.2.1 (by omega)
    refine e_iload_n dX12_when_9 rfl ?_
    refine c_S1iR (N := mX12_isAhead) dX12_when_10 ls_X12_281 mo_X12_isAhead  (Nat.le_of_ble_eq_true rfl) (Nat.le_of_ble_eq_true rfl) (by decide) (s_isAhead D ((n))) ?_
    refine e_if_neB 23 dX12_when_13 (by decide) (fun hcq13 => ?_) (fun hcq13 => ?_)
    · obtain ⟨hn_n, hg_n, hl_n⟩ := wiN hcq13 (by decide) (by decide)
      refine e_aload_n dX12_when_23 rfl ?_
      refine e_iload_n dX12_when_24 rfl ?_
      refine e_top (nI (tn t)) (hn_t) ?_
      refine c_V1iR (N := mX12_isOpen) dX12_when_25 lv_X12_158 mo_X12_isOpen hR.cn (Nat.le_of_ble_eq_true rfl) (Nat.le_of_ble_eq_true rfl) (by decide) (s_isOpen D hR (tn t) (by omega)) ?_
      refine e_if_neB 39 dX12_when_28 (by decide) (fun hcq28 => ?_) (fun hcq28 => ?_)
      · refine e_aload_n dX12_when_39 rfl ?_
        refine e_get dX12_when_40 fl_X12_9_12 hR.1 rfl ?_
        refine e_aload_n dX12_when_43 rfl ?_
        refine e_get dX12_when_44 fl_X12_16_12 hR.1 rfl ?_
        refine c_S2v (nc := 0) (ns := 0) (mc := 0) (ms := 0) (N := mX12_copy) dX12_when_47 ls_X12_277 mo_X12_copy  (Nat.le_of_ble_eq_true rfl) (Nat.le_of_ble_eq_true rfl) (by decide) (s_copyNA D hR) (fun h hP => ?_)
        obtain ⟨hR, hF1⟩ := hP
        have hF := hF.trans hF1
        obtain ⟨σ, hR, hA2, hS⟩ : ∃ z, RefAt h (sN s) z τ ∧ z 2 = sN s ∧ RS z τ s := ⟨_, hR, va_upS _ _ _, hS.to (fun i hi => va_upN _ _ hi.1) rfl rfl⟩
        refine e_iconst (((-1))) dX12_when_50 (by decide) ?_
        refine e_istore_n dX12_when_51 (by decide) ?_
        refine e_iconst (nI (0)) dX12_when_52 (by decide) ?_
        refine e_istore dX12_when_53 (by decide) ?_
        refine e_iconst (nI (0)) dX12_when_55 (by decide) ?_
        refine e_istore dX12_when_56 (by decide) ?_
        refine lp_when D hI t n hn_t hl_t hn_n (by omega) (fun h9 σ9 a9 b9 d9 => ?_) (tn n + 1) 0 h σ ((-1), nI 0) (by omega) hR hF hS hA2 rfl
        have e9 : f_when s t n = ((wnW (sN s) (tn t) (tn n) (tn n + 1)).1, s) := by rw [f_when, if_pos hcq6, if_pos hcq13, if_pos hcq28]
        rw [e9] at hp
        exact hp _ ⟨⟨_, _, a9, d9⟩, b9⟩
      · refine e_aload_n dX12_when_31 rfl ?_
        refine e_ldcw dX12_when_32 w_1540 ?_
        refine c_V1i (nc := 0) (ns := 0) (mc := 0) (ms := 0) (N := mX12_finding) dX12_when_35 lv_X12_90 mo_X12_finding hR.cn (Nat.le_of_ble_eq_true rfl) (Nat.le_of_ble_eq_true rfl) (by decide) (s_finding D hR 3 (by decide) (((-1000000003))) fE3) (fun h hP => ?_)
        obtain ⟨hR, hF1⟩ := hP
        have hF := hF.trans hF1
        have hS := hS.er 3
        refine e_top (lowE 3) lE3 ?_
        have e9 : f_when s t n = er 3 (s) := by rw [f_when, if_pos hcq6, if_pos hcq13, if_neg hcq28]
        rw [e9] at hp
        exact e_iret dX12_when_38 rfl (hp _ ⟨⟨_, _, hR, hS⟩, hF⟩)
    · refine e_aload_n dX12_when_16 rfl ?_
      refine e_ldc dX12_when_17 w_1294 ?_
      refine c_V1i (nc := 0) (ns := 0) (mc := 0) (ms := 0) (N := mX12_finding) dX12_when_19 lv_X12_90 mo_X12_finding hR.cn (Nat.le_of_ble_eq_true rfl) (Nat.le_of_ble_eq_true rfl) (by decide) (s_finding D hR 1 (by decide) (((-1000000001))) fE1) (fun h hP => ?_)
      obtain ⟨hR, hF1⟩ := hP
      have hF := hF.trans hF1
      have hS := hS.er 1
      refine e_top (lowE 1) lE1 ?_
      have e9 : f_when s t n = er 1 (s) := by rw [f_when, if_pos hcq6, if_neg hcq13]
      rw [e9] at hp
      exact e_iret dX12_when_22 rfl (hp _ ⟨⟨_, _, hR, hS⟩, hF⟩)
theorem notwi {x : Int32} {m : Nat} (hm : m < 2 ^ 31) (h : ¬ (nI 0 ≤ x ∧ x ≤ nI m)) : x.toInt < 0 ∨ (m : Int) < x.toInt := by
  by_cases z : x.toInt < 0
  · exact Or.inl z
  · right
    by_cases y : (m : Int) < x.toInt
    · exact y
    · exact absurd ⟨Int32.le_iff_toInt_le.mpr (by rw [nI_toInt (by decide)]; exact Int.not_lt.mp z), Int32.le_iff_toInt_le.mpr (by rw [nI_toInt hm]; exact Int.not_lt.mp y)⟩ h
set_option maxRecDepth 20000 in
theorem lp_count (D : En) {s : SS} {τ : Nat → Int32} {h00 : AH} (hI : INV s) {post : Option Value → AH → Prop} {h : AH} {σ : Nat → Nat → Int32} (hR : RefAt h (sN s) σ τ) (w : Int32) (hp : post (some (.int (sumF (fun t => sN s (112 + 7 * t + 5)) (tcN (sN s))))) h) : ∀ (j : Nat) (u : Nat) (ac : Int32), (u + j = tcN (sN s)) → (ac = sumF (fun t => sN s (112 + 7 * t + 5)) u) → Ev D 1 mX12_count 61 [some (.ref (82)), some (.int (w)), some (.int (ac)), some (.int (nI (u)))] [] h 0 0 post := by
  intro j
  induction j with
  | zero =>
    intro u ac hm ha
    have hY := hI.1.1
    have hnv := hY.2.1
    have htc10 := hY.2.2.2.1
    refine e_iload_n dX12_count_61 rfl ?_
    refine e_aload_n dX12_count_62 rfl ?_
    refine e_get dX12_count_63 fl_X12_9_12 hR.1 rfl ?_
    refine e_iconst (nI (2)) dX12_count_66 (by decide) ?_
    refine e_ild (2) (nI (tcN (sN s))) dX12_count_67 hR.2.1 rfl (by omega) (by decide) hY.2.2.1 ?_
    refine e_icmp_geN 86 dX12_count_68 (by decide) (by omega) (by omega) (fun hcq68 => ?_) (fun hcq68 => absurd hcq68 (by omega))
    refine e_iload_n dX12_count_86 rfl ?_
    rw [show u = tcN (sN s) by omega] at ha
    exact e_iret dX12_count_87 rfl (by rw [ha]; exact hp)
  | succ j ih =>
    intro u ac hm ha
    have hY := hI.1.1
    have hnv := hY.2.1
    have htc10 := hY.2.2.2.1
    refine e_iload_n dX12_count_61 rfl ?_
    refine e_aload_n dX12_count_62 rfl ?_
    refine e_get dX12_count_63 fl_X12_9_12 hR.1 rfl ?_
    refine e_iconst (nI (2)) dX12_count_66 (by decide) ?_
    refine e_ild (2) (nI (tcN (sN s))) dX12_count_67 hR.2.1 rfl (by omega) (by decide) hY.2.2.1 ?_
    refine e_icmp_geN 86 dX12_count_68 (by decide) (by omega) (by omega) (fun hcq68 => absurd hcq68 (by omega)) (fun hcq68 => ?_)
    refine e_iload_n dX12_count_71 rfl ?_
    refine e_aload_n dX12_count_72 rfl ?_
    refine e_iload_n dX12_count_73 rfl ?_
    refine e_iconst (nI (5)) dX12_count_74 (by decide) ?_
    refine c_V2iR (N := mX12_thing) dX12_count_75 lv_X12_136 mo_X12_thing hR.cn (Nat.le_of_ble_eq_true rfl) (Nat.le_of_ble_eq_true rfl) (by decide) (s_thing D hR (u) (5) (by omega) (by omega)) ?_
    refine e_iadd dX12_count_78 ?_
    refine e_istore_n dX12_count_79 (by decide) ?_
    refine e_iincN (u + 1) dX12_count_80 rfl (by decide) (nI_add _ _) ?_
    refine e_goto 61 dX12_count_83 (by decide) ?_
    exact ih (u + 1) _ (by omega) (by rw [sumF, ← ha])
set_option maxRecDepth 20000 in
theorem rp_count (D : En) {h : AH} {s : SS} (hI : INV s) (hRS : RefS h s) (w : Int32) : Sp D 1 mX12_count [.ref (82), .int (w)] h 0 0 (some (.int (f_count s w).1)) (fun h' => RefS h' (f_count s w).2 ∧ FrR h h') := by
  obtain ⟨σ, τ, hR, hS⟩ := hRS
  have hY := hI.1.1
  have hnv := hY.2.1
  have htc10 := hY.2.2.2.1
  obtain ⟨h00, hh00⟩ : ∃ z, z = h := ⟨_, rfl⟩
  have hF : FrR h00 h := by rw [hh00]; exact FrR.rf
  intro post hp
  rw [← hh00] at hp
  show Ev D 1 mX12_count 0 [some (.ref (82)), some (.int (w)), none, none] [] h 0 0 post
  refine e_iconst (nI (0)) dX12_count_0 (by decide) ?_
  refine e_istore_n dX12_count_1 (by decide) ?_
  refine e_iload_n dX12_count_2 rfl ?_
  by_cases hw8 : wi (nI 0) w (nI 8)
  · obtain ⟨hn_w, hg_w, hl_w⟩ := wiN hw8 (by decide) (by decide)
    have hsp : tn w = 0 ∨ tn w = 1 ∨ tn w = 2 ∨ tn w = 3 ∨ tn w = 4 ∨ tn w = 5 ∨ tn w = 6 ∨ tn w = 7 ∨ tn w = 8 := by omega
    rcases hsp with hsp | hsp | hsp | hsp | hsp | hsp | hsp | hsp | hsp
    · refine e_top (nI 0) (by rw [← hsp]; exact hn_w) ?_
      refine e_tableIn (off := 49) 52 dX12_count_3 (by decide) (by decide) (by decide) (by decide) ?_
      refine e_aload_n dX12_count_52 rfl ?_
      refine e_get dX12_count_53 fl_X12_9_12 hR.1 rfl ?_
      refine e_iload_n dX12_count_56 rfl ?_
      refine e_top (nI (tn w)) (hn_w) ?_
      refine e_ild (tn w) (((sN s) (tn w))) dX12_count_57 hR.2.1 rfl (by omega) (by decide) rfl ?_
      have e9 : f_count s w = (((sN s) (tn w)), s) := by rw [f_count, if_pos hw8, if_pos (by omega)]
      rw [e9] at hp
      exact e_iret dX12_count_58 rfl (hp _ ⟨⟨_, _, hR, hS⟩, hF⟩)
    · refine e_top (nI 1) (by rw [← hsp]; exact hn_w) ?_
      refine e_tableIn (off := 49) 52 dX12_count_3 (by decide) (by decide) (by decide) (by decide) ?_
      refine e_aload_n dX12_count_52 rfl ?_
      refine e_get dX12_count_53 fl_X12_9_12 hR.1 rfl ?_
      refine e_iload_n dX12_count_56 rfl ?_
      refine e_top (nI (tn w)) (hn_w) ?_
      refine e_ild (tn w) (((sN s) (tn w))) dX12_count_57 hR.2.1 rfl (by omega) (by decide) rfl ?_
      have e9 : f_count s w = (((sN s) (tn w)), s) := by rw [f_count, if_pos hw8, if_pos (by omega)]
      rw [e9] at hp
      exact e_iret dX12_count_58 rfl (hp _ ⟨⟨_, _, hR, hS⟩, hF⟩)
    · refine e_top (nI 2) (by rw [← hsp]; exact hn_w) ?_
      refine e_tableIn (off := 49) 52 dX12_count_3 (by decide) (by decide) (by decide) (by decide) ?_
      refine e_aload_n dX12_count_52 rfl ?_
      refine e_get dX12_count_53 fl_X12_9_12 hR.1 rfl ?_
      refine e_iload_n dX12_count_56 rfl ?_
      refine e_top (nI (tn w)) (hn_w) ?_
      refine e_ild (tn w) (((sN s) (tn w))) dX12_count_57 hR.2.1 rfl (by omega) (by decide) rfl ?_
      have e9 : f_count s w = (((sN s) (tn w)), s) := by rw [f_count, if_pos hw8, if_pos (by omega)]
      rw [e9] at hp
      exact e_iret dX12_count_58 rfl (hp _ ⟨⟨_, _, hR, hS⟩, hF⟩)
    · refine e_top (nI 3) (by rw [← hsp]; exact hn_w) ?_
      refine e_tableIn (off := 56) 59 dX12_count_3 (by decide) (by decide) (by decide) (by decide) ?_
      refine e_iconst (nI (0)) dX12_count_59 (by decide) ?_
      refine e_istore_n dX12_count_60 (by decide) ?_
      refine lp_count D hI (h00 := h) hR w ?_ (tcN (sN s)) 0 _ (by omega) rfl
      have e9 : f_count s w = (sumF (fun t => sN s (112 + 7 * t + 5)) (tcN (sN s)), s) := by rw [f_count, if_pos hw8, if_neg (by omega), if_pos hsp]
      rw [e9] at hp
      exact hp _ ⟨⟨_, _, hR, hS⟩, hF⟩
    · refine e_top (nI 4) (by rw [← hsp]; exact hn_w) ?_
      refine e_tableIn (off := 85) 88 dX12_count_3 (by decide) (by decide) (by decide) (by decide) ?_
      refine e_aload_n dX12_count_88 rfl ?_
      refine e_get dX12_count_89 fl_X12_9_12 hR.1 rfl ?_
      refine e_bipush (nI (12)) dX12_count_92 (by decide) ?_
      refine e_ild (12) (((sN s) (12))) dX12_count_94 hR.2.1 rfl (by omega) (by decide) rfl ?_
      have e9 : f_count s w = (((sN s) (12)), s) := by rw [f_count, if_pos hw8, if_neg (by omega), if_neg (by omega), if_pos hsp]
      rw [e9] at hp
      exact e_iret dX12_count_95 rfl (hp _ ⟨⟨_, _, hR, hS⟩, hF⟩)
    · refine e_top (nI 5) (by rw [← hsp]; exact hn_w) ?_
      refine e_tableIn (off := 93) 96 dX12_count_3 (by decide) (by decide) (by decide) (by decide) ?_
      refine e_aload_n dX12_count_96 rfl ?_
      refine e_get dX12_count_97 fl_X12_9_12 hR.1 rfl ?_
      refine e_iconst (nI (3)) dX12_count_100 (by decide) ?_
      refine e_ild (3) (nI (tlN (sN s))) dX12_count_101 hR.2.1 rfl (by omega) (by decide) hI.1.2.1.1 ?_
      have e9 : f_count s w = (nI (tlN (sN s)), s) := by rw [f_count, if_pos hw8, if_neg (by omega), if_neg (by omega), if_neg (by omega), if_pos hsp]
      rw [e9] at hp
      exact e_iret dX12_count_102 rfl (hp _ ⟨⟨_, _, hR, hS⟩, hF⟩)
    · refine e_top (nI 6) (by rw [← hsp]; exact hn_w) ?_
      refine e_tableIn (off := 100) 103 dX12_count_3 (by decide) (by decide) (by decide) (by decide) ?_
      refine e_aload_n dX12_count_103 rfl ?_
      refine e_get dX12_count_104 fl_X12_9_12 hR.1 rfl ?_
      refine e_iconst (nI (4)) dX12_count_107 (by decide) ?_
      refine e_ild (4) (nI (wlN (sN s))) dX12_count_108 hR.2.1 rfl (by omega) (by decide) hI.1.2.2.1.1 ?_
      have e9 : f_count s w = (nI (wlN (sN s)), s) := by rw [f_count, if_pos hw8, if_neg (by omega), if_neg (by omega), if_neg (by omega), if_neg (by omega), if_pos hsp]
      rw [e9] at hp
      exact e_iret dX12_count_109 rfl (hp _ ⟨⟨_, _, hR, hS⟩, hF⟩)
    · refine e_top (nI 7) (by rw [← hsp]; exact hn_w) ?_
      refine e_tableIn (off := 107) 110 dX12_count_3 (by decide) (by decide) (by decide) (by decide) ?_
      refine e_aload_n dX12_count_110 rfl ?_
      refine e_get dX12_count_111 fl_X12_299_12 hR.1 rfl ?_
      refine e_top (nI (sT s).2) (hS.2.2.2.1) ?_
      have e9 : f_count s w = (nI ((sT s).2), s) := by rw [f_count, if_pos hw8, if_neg (by omega), if_neg (by omega), if_neg (by omega), if_neg (by omega), if_neg (by omega), if_pos hsp]
      rw [e9] at hp
      exact e_iret dX12_count_114 rfl (hp _ ⟨⟨_, _, hR, hS⟩, hF⟩)
    · refine e_top (nI 8) (by rw [← hsp]; exact hn_w) ?_
      refine e_tableIn (off := 112) 115 dX12_count_3 (by decide) (by decide) (by decide) (by decide) ?_
      refine e_aload_n dX12_count_115 rfl ?_
      refine e_get dX12_count_116 fl_X12_9_12 hR.1 rfl ?_
      refine e_iconst (nI (5)) dX12_count_119 (by decide) ?_
      refine e_ild (5) (((sN s) (5))) dX12_count_120 hR.2.1 rfl (by omega) (by decide) rfl ?_
      have e9 : f_count s w = (((sN s) (5)), s) := by rw [f_count, if_pos hw8, if_neg (by omega), if_neg (by omega), if_neg (by omega), if_neg (by omega), if_neg (by omega), if_neg (by omega)]
      rw [e9] at hp
      exact e_iret dX12_count_121 rfl (hp _ ⟨⟨_, _, hR, hS⟩, hF⟩)
  · refine e_tableOut 122 dX12_count_3 (notwi (by decide) hw8) (by decide) ?_
    refine e_aload_n dX12_count_122 rfl ?_
    refine e_ldc dX12_count_123 w_1294 ?_
    refine c_V1i (nc := 0) (ns := 0) (mc := 0) (ms := 0) (N := mX12_finding) dX12_count_125 lv_X12_90 mo_X12_finding hR.cn (Nat.le_of_ble_eq_true rfl) (Nat.le_of_ble_eq_true rfl) (by decide) (s_finding D hR 1 (by decide) (((-1000000001))) fE1) (fun h hP => ?_)
    obtain ⟨hR, hF1⟩ := hP
    have hF := hF.trans hF1
    have hS := hS.er 1
    refine e_top (lowE 1) lE1 ?_
    have e9 : f_count s w = er 1 (s) := by rw [f_count, if_neg hw8]
    rw [e9] at hp
    exact e_iret dX12_count_128 rfl (hp _ ⟨⟨_, _, hR, hS⟩, hF⟩)
