theorem fE1 : (-1000000000 : Int32) - (-1000000001) = nI 1 := by decide +kernel
theorem lE1 : (-1000000001 : Int32) = lowE 1 := by decide +kernel
theorem fE2 : (-1000000000 : Int32) - (-1000000002) = nI 2 := by decide +kernel
theorem lE2 : (-1000000002 : Int32) = lowE 2 := by decide +kernel
theorem fE3 : (-1000000000 : Int32) - (-1000000003) = nI 3 := by decide +kernel
theorem lE3 : (-1000000003 : Int32) = lowE 3 := by decide +kernel
theorem fE4 : (-1000000000 : Int32) - (-1000000004) = nI 4 := by decide +kernel
theorem lE4 : (-1000000004 : Int32) = lowE 4 := by decide +kernel
theorem fE5 : (-1000000000 : Int32) - (-1000000005) = nI 5 := by decide +kernel
theorem lE5 : (-1000000005 : Int32) = lowE 5 := by decide +kernel
theorem ob2 {P : Prop} [Decidable P] : (if b2 P = 0 then nI 0 else nI 1) = b2 P := by
  by_cases z : P
  · rw [b2_t z]; rfl
  · rw [b2_f z]; rfl
theorem s_thingK (D : En) {h : AH} {N : Nat → Int32} {σ : Nat → Nat → Int32} {τ : Nat → Int32} (hR : RefAt h N σ τ) (t : Nat) (ht : t < 10) (hW : TW N t) : Sp D 0 mX12_thing [.ref (82), .int (nI (t)), .int (nI 0)] h 0 0 (some (.int (nI (kdN N t)))) (fun h' => h' = h) := by
  have h1 := s_thing D hR t 0 ht (by decide)
  rw [hW.1] at h1
  exact h1
set_option maxRecDepth 20000 in
theorem rp_village (D : En) {h : AH} {s : SS} (hI : INV s) (hRS : RefS h s) (p : Int32) (y : Int32) (g : Int32) (oo : Int32) : Sp D 3 mX12_village [.ref (82), .int (p), .int (y), .int (g), .int (oo)] h 0 0 (some (.int (f_village s p y g oo).1)) (fun h' => RefS h' (f_village s p y g oo).2 ∧ FrR h h') := by
  obtain ⟨σ, τ, hR, hS⟩ := hRS
  have hY := hI.1.1
  have hnv := hY.2.1
  have htc10 := hY.2.2.2.1
  obtain ⟨h00, hh00⟩ : ∃ z, z = h := ⟨_, rfl⟩
  have hF : FrR h00 h := by rw [hh00]; exact FrR.rf
  intro post hp
  rw [← hh00] at hp
  show Ev D 3 mX12_village 0 [some (.ref (82)), some (.int (p)), some (.int (y)), some (.int (g)), some (.int (oo))] [] h 0 0 post
  refine e_iload_n dX12_village_0 rfl ?_
  refine e_iload_n dX12_village_1 rfl ?_
  refine e_iload_n dX12_village_2 rfl ?_
  refine e_iload dX12_village_3 rfl ?_
  refine c_S4iR (N := mX12_isAsTold) dX12_village_5 ls_X12_85 mo_X12_isAsTold  (Nat.le_of_ble_eq_true rfl) (Nat.le_of_ble_eq_true rfl) (by decide) (s_isAsTold D ((p)) ((y)) ((g)) ((oo))) ?_
  refine e_if_neB 18 dX12_village_8 (by decide) (fun hcq8 => ?_) (fun hcq8 => ?_)
  · refine e_aload_n dX12_village_18 rfl ?_
    refine e_get dX12_village_19 fl_X12_9_12 hR.1 rfl ?_
    refine e_iconst (nI (1)) dX12_village_22 (by decide) ?_
    refine e_ild (1) (nI (nvN (sN s))) dX12_village_23 hR.2.1 rfl (by omega) (by decide) hY.1 ?_
    refine e_bipush (nI (8)) dX12_village_24 (by decide) ?_
    refine e_icmp_neN 36 dX12_village_26 (by decide) (by omega) (by omega) (fun hcq26 => ?_) (fun hcq26 => ?_)
    · refine e_aload_n dX12_village_36 rfl ?_
      refine e_iload_n dX12_village_37 rfl ?_
      refine e_iload_n dX12_village_38 rfl ?_
      refine e_iload_n dX12_village_39 rfl ?_
      refine e_iload dX12_village_40 rfl ?_
      refine c_V4v (nc := 0) (ns := 0) (mc := 0) (ms := 0) (N := mX12_settles) dX12_village_42 lv_X12_95 mo_X12_settles hR.cn (Nat.le_of_ble_eq_true rfl) (Nat.le_of_ble_eq_true rfl) (by decide) (s_settles D hR (nvN (sN s)) (by omega) hY.1 ((p)) ((y)) ((g)) ((oo))) (fun h hP => ?_)
      obtain ⟨hR, hF1⟩ := hP
      have hF := hF.trans hF1
      refine e_aload_n dX12_village_45 rfl ?_
      refine e_get dX12_village_46 fl_X12_9_12 hR.1 rfl ?_
      refine e_iconst (nI (1)) dX12_village_49 (by decide) ?_
      refine e_ild (1) (nI (nvN (sN s) + 1)) dX12_village_50 hR.2.1 rfl (by omega) (by decide) (by show upd _ _ _ _ = _; rw [pk_us]) ?_
      refine e_iconst (nI (1)) dX12_village_51 (by decide) ?_
      refine e_isubN dX12_village_52 (by omega) ?_
      have e9 : f_village s p y g oo = (nI ((nvN (sN s) + 1) - 1), wN s (setR (sN s) (nvN (sN s)) ((p)) ((y)) ((g)) ((oo)))) := by rw [f_village, if_pos hcq8, if_neg hcq26]; rfl
      rw [e9] at hp
      exact e_iret dX12_village_53 rfl (hp _ ⟨⟨_, _, hR, hS⟩, hF⟩)
    · refine e_aload_n dX12_village_29 rfl ?_
      refine e_ldc dX12_village_30 w_1300 ?_
      refine c_V1i (nc := 0) (ns := 0) (mc := 0) (ms := 0) (N := mX12_finding) dX12_village_32 lv_X12_90 mo_X12_finding hR.cn (Nat.le_of_ble_eq_true rfl) (Nat.le_of_ble_eq_true rfl) (by decide) (s_finding D hR 4 (by decide) (((-1000000004))) fE4) (fun h hP => ?_)
      obtain ⟨hR, hF1⟩ := hP
      have hF := hF.trans hF1
      have hS := hS.er 4
      refine e_top (lowE 4) lE4 ?_
      have e9 : f_village s p y g oo = er 4 (s) := by rw [f_village, if_pos hcq8, if_pos hcq26]
      rw [e9] at hp
      exact e_iret dX12_village_35 rfl (hp _ ⟨⟨_, _, hR, hS⟩, hF⟩)
  · refine e_aload_n dX12_village_11 rfl ?_
    refine e_ldc dX12_village_12 w_1294 ?_
    refine c_V1i (nc := 0) (ns := 0) (mc := 0) (ms := 0) (N := mX12_finding) dX12_village_14 lv_X12_90 mo_X12_finding hR.cn (Nat.le_of_ble_eq_true rfl) (Nat.le_of_ble_eq_true rfl) (by decide) (s_finding D hR 1 (by decide) (((-1000000001))) fE1) (fun h hP => ?_)
    obtain ⟨hR, hF1⟩ := hP
    have hF := hF.trans hF1
    have hS := hS.er 1
    refine e_top (lowE 1) lE1 ?_
    have e9 : f_village s p y g oo = er 1 (s) := by rw [f_village, if_neg hcq8]
    rw [e9] at hp
    exact e_iret dX12_village_17 rfl (hp _ ⟨⟨_, _, hR, hS⟩, hF⟩)
set_option maxRecDepth 20000 in
theorem rp_people (D : En) {h : AH} {s : SS} (hI : INV s) (hRS : RefS h s) (v : Int32) (w : Int32) : Sp D 2 mX12_people [.ref (82), .int (v), .int (w)] h 0 0 (some (.int (f_people s v w).1)) (fun h' => RefS h' (f_people s v w).2 ∧ FrR h h') := by
  obtain ⟨σ, τ, hR, hS⟩ := hRS
  have hY := hI.1.1
  have hnv := hY.2.1
  have htc10 := hY.2.2.2.1
  obtain ⟨h00, hh00⟩ : ∃ z, z = h := ⟨_, rfl⟩
  have hF : FrR h00 h := by rw [hh00]; exact FrR.rf
  intro post hp
  rw [← hh00] at hp
  show Ev D 2 mX12_people 0 [some (.ref (82)), some (.int (v)), some (.int (w))] [] h 0 0 post
  refine e_aload_n dX12_people_0 rfl ?_
  refine e_iload_n dX12_people_1 rfl ?_
  refine e_iconst (nI (1)) dX12_people_2 (by decide) ?_
  refine c_V2iR (N := mX12_is) dX12_people_3 lv_X12_103 mo_X12_is hR.cn (Nat.le_of_ble_eq_true rfl) (Nat.le_of_ble_eq_true rfl) (by decide) (s_is D hR ((v)) (1) (by omega)) ?_
  refine e_if_eqB 18 dX12_people_6 (by decide) (fun hcq6 => ?_) (fun hcq6 => ?_)
  · refine e_aload_n dX12_people_18 rfl ?_
    refine e_ldc dX12_people_19 w_1294 ?_
    refine c_V1i (nc := 0) (ns := 0) (mc := 0) (ms := 0) (N := mX12_finding) dX12_people_21 lv_X12_90 mo_X12_finding hR.cn (Nat.le_of_ble_eq_true rfl) (Nat.le_of_ble_eq_true rfl) (by decide) (s_finding D hR 1 (by decide) (((-1000000001))) fE1) (fun h hP => ?_)
    obtain ⟨hR, hF1⟩ := hP
    have hF := hF.trans hF1
    have hS := hS.er 1
    refine e_top (lowE 1) lE1 ?_
    have e9 : f_people s v w = er 1 (s) := by rw [f_people, if_neg hcq6]
    rw [e9] at hp
    exact e_iret dX12_people_24 rfl (hp _ ⟨⟨_, _, hR, hS⟩, hF⟩)
  · obtain ⟨hn_v, hl_v⟩ := isN hcq6 hY.1 (by omega)
    refine e_iload_n dX12_people_9 rfl ?_
    refine e_iconst (nI (0)) dX12_people_10 (by decide) ?_
    refine e_iconst (nI (4)) dX12_people_11 (by decide) ?_
    refine c_S3iR (N := mX12_within) dX12_people_12 ls_X12_76 mo_X12_within  (Nat.le_of_ble_eq_true rfl) (Nat.le_of_ble_eq_true rfl) (by decide) (s_within D ((w)) (nI (0)) (nI (4))) ?_
    refine e_if_neB 25 dX12_people_15 (by decide) (fun hcq15 => ?_) (fun hcq15 => ?_)
    · obtain ⟨hn_w, hg_w, hl_w⟩ := wiN hcq15 (by decide) (by decide)
      refine e_iload_n dX12_people_25 rfl ?_
      refine e_top (nI (tn w)) (hn_w) ?_
      refine e_iconst (nI (3)) dX12_people_26 (by decide) ?_
      refine e_icmp_geN 39 dX12_people_27 (by decide) (by omega) (by omega) (fun hcq27 => ?_) (fun hcq27 => ?_)
      · refine e_iload_n dX12_people_39 rfl ?_
        refine e_top (nI (tn w)) (hn_w) ?_
        refine e_iconst (nI (3)) dX12_people_40 (by decide) ?_
        refine e_icmp_neN 52 dX12_people_41 (by decide) (by omega) (by omega) (fun hcq41 => ?_) (fun hcq41 => ?_)
        · refine e_aload_n dX12_people_52 rfl ?_
          refine e_iload_n dX12_people_53 rfl ?_
          refine e_top (nI (tn v)) (hn_v) ?_
          refine c_V1iR (N := mX12_placeOf) dX12_people_54 lv_X12_110 mo_X12_placeOf hR.cn (Nat.le_of_ble_eq_true rfl) (Nat.le_of_ble_eq_true rfl) (by decide) (s_placeOf D hR (tn v) (by omega)) ?_
          have e9 : f_people s v w = (((sN s) (16 + 4 * (tn v))), s) := by rw [f_people, if_pos hcq6, if_pos hcq15, if_neg (Nat.not_lt.mpr hcq27), if_neg hcq41]
          rw [e9] at hp
          exact e_iret dX12_people_57 rfl (hp _ ⟨⟨_, _, hR, hS⟩, hF⟩)
        · refine e_aload_n dX12_people_44 rfl ?_
          refine e_iload_n dX12_people_45 rfl ?_
          refine e_top (nI (tn v)) (hn_v) ?_
          refine c_V1iR (N := mX12_allOf) dX12_people_46 lv_X12_107 mo_X12_allOf hR.cn (Nat.le_of_ble_eq_true rfl) (Nat.le_of_ble_eq_true rfl) (by decide) (s_allOf D hR (tn v) (by omega)) ?_
          refine e_goto 57 dX12_people_49 (by decide) ?_
          have e9 : f_people s v w = ((allR (sN s) (tn v)), s) := by rw [f_people, if_pos hcq6, if_pos hcq15, if_neg (Nat.not_lt.mpr hcq27), if_pos hcq41]
          rw [e9] at hp
          exact e_iret dX12_people_57 rfl (hp _ ⟨⟨_, _, hR, hS⟩, hF⟩)
      · refine e_aload_n dX12_people_30 rfl ?_
        refine e_iload_n dX12_people_31 rfl ?_
        refine e_top (nI (tn v)) (hn_v) ?_
        refine e_iload_n dX12_people_32 rfl ?_
        refine e_top (nI (tn w)) (hn_w) ?_
        refine c_V2iR (N := mX12_of) dX12_people_33 lv_X12_99 mo_X12_of hR.cn (Nat.le_of_ble_eq_true rfl) (Nat.le_of_ble_eq_true rfl) (by decide) (s_of D hR (tn v) (tn w) (by omega) (by omega)) ?_
        refine e_goto 57 dX12_people_36 (by decide) ?_
        have e9 : f_people s v w = (((sN s) (16 + 4 * (tn v) + 1 + (tn w))), s) := by rw [f_people, if_pos hcq6, if_pos hcq15, if_pos hcq27]
        rw [e9] at hp
        exact e_iret dX12_people_57 rfl (hp _ ⟨⟨_, _, hR, hS⟩, hF⟩)
    · refine e_aload_n dX12_people_18 rfl ?_
      refine e_ldc dX12_people_19 w_1294 ?_
      refine c_V1i (nc := 0) (ns := 0) (mc := 0) (ms := 0) (N := mX12_finding) dX12_people_21 lv_X12_90 mo_X12_finding hR.cn (Nat.le_of_ble_eq_true rfl) (Nat.le_of_ble_eq_true rfl) (by decide) (s_finding D hR 1 (by decide) (((-1000000001))) fE1) (fun h hP => ?_)
      obtain ⟨hR, hF1⟩ := hP
      have hF := hF.trans hF1
      have hS := hS.er 1
      refine e_top (lowE 1) lE1 ?_
      have e9 : f_people s v w = er 1 (s) := by rw [f_people, if_pos hcq6, if_neg hcq15]
      rw [e9] at hp
      exact e_iret dX12_people_24 rfl (hp _ ⟨⟨_, _, hR, hS⟩, hF⟩)
set_option maxRecDepth 20000 in
theorem rp_become (D : En) {h : AH} {s : SS} (hI : INV s) (hRS : RefS h s) (v : Int32) (w : Int32) (x : Int32) : Sp D 2 mX12_become [.ref (82), .int (v), .int (w), .int (x)] h 0 0 (some (.int (f_become s v w x).1)) (fun h' => RefS h' (f_become s v w x).2 ∧ FrR h h') := by
  obtain ⟨σ, τ, hR, hS⟩ := hRS
  have hY := hI.1.1
  have hnv := hY.2.1
  have htc10 := hY.2.2.2.1
  obtain ⟨h00, hh00⟩ : ∃ z, z = h := ⟨_, rfl⟩
  have hF : FrR h00 h := by rw [hh00]; exact FrR.rf
  intro post hp
  rw [← hh00] at hp
  show Ev D 2 mX12_become 0 [some (.ref (82)), some (.int (v)), some (.int (w)), some (.int (x))] [] h 0 0 post
  refine e_aload_n dX12_become_0 rfl ?_
  refine e_iload_n dX12_become_1 rfl ?_
  refine e_iconst (nI (1)) dX12_become_2 (by decide) ?_
  refine c_V2iR (N := mX12_is) dX12_become_3 lv_X12_103 mo_X12_is hR.cn (Nat.le_of_ble_eq_true rfl) (Nat.le_of_ble_eq_true rfl) (by decide) (s_is D hR ((v)) (1) (by omega)) ?_
  refine e_if_eqB 43 dX12_become_6 (by decide) (fun hcq6 => ?_) (fun hcq6 => ?_)
  · refine e_aload_n dX12_become_43 rfl ?_
    refine e_ldc dX12_become_44 w_1294 ?_
    refine c_V1i (nc := 0) (ns := 0) (mc := 0) (ms := 0) (N := mX12_finding) dX12_become_46 lv_X12_90 mo_X12_finding hR.cn (Nat.le_of_ble_eq_true rfl) (Nat.le_of_ble_eq_true rfl) (by decide) (s_finding D hR 1 (by decide) (((-1000000001))) fE1) (fun h hP => ?_)
    obtain ⟨hR, hF1⟩ := hP
    have hF := hF.trans hF1
    have hS := hS.er 1
    refine e_top (lowE 1) lE1 ?_
    have e9 : f_become s v w x = er 1 (s) := by rw [f_become, if_neg hcq6]
    rw [e9] at hp
    exact e_iret dX12_become_49 rfl (hp _ ⟨⟨_, _, hR, hS⟩, hF⟩)
  · obtain ⟨hn_v, hl_v⟩ := isN hcq6 hY.1 (by omega)
    refine e_iload_n dX12_become_9 rfl ?_
    refine e_iconst (nI (0)) dX12_become_10 (by decide) ?_
    refine e_iconst (nI (2)) dX12_become_11 (by decide) ?_
    refine c_S3iR (N := mX12_within) dX12_become_12 ls_X12_76 mo_X12_within  (Nat.le_of_ble_eq_true rfl) (Nat.le_of_ble_eq_true rfl) (by decide) (s_within D ((w)) (nI (0)) (nI (2))) ?_
    refine e_if_eqB 43 dX12_become_15 (by decide) (fun hcq15 => ?_) (fun hcq15 => ?_)
    · refine e_aload_n dX12_become_43 rfl ?_
      refine e_ldc dX12_become_44 w_1294 ?_
      refine c_V1i (nc := 0) (ns := 0) (mc := 0) (ms := 0) (N := mX12_finding) dX12_become_46 lv_X12_90 mo_X12_finding hR.cn (Nat.le_of_ble_eq_true rfl) (Nat.le_of_ble_eq_true rfl) (by decide) (s_finding D hR 1 (by decide) (((-1000000001))) fE1) (fun h hP => ?_)
      obtain ⟨hR, hF1⟩ := hP
      have hF := hF.trans hF1
      have hS := hS.er 1
      refine e_top (lowE 1) lE1 ?_
      have e9 : f_become s v w x = er 1 (s) := by rw [f_become, if_pos hcq6, if_neg hcq15]
      rw [e9] at hp
      exact e_iret dX12_become_49 rfl (hp _ ⟨⟨_, _, hR, hS⟩, hF⟩)
    · obtain ⟨hn_w, hg_w, hl_w⟩ := wiN hcq15 (by decide) (by decide)
      refine e_iload_n dX12_become_18 rfl ?_
      refine c_S1iR (N := mX12_isMany) dX12_become_19 ls_X12_81 mo_X12_isMany  (Nat.le_of_ble_eq_true rfl) (Nat.le_of_ble_eq_true rfl) (by decide) (s_isMany D ((x))) ?_
      refine e_if_eqB 43 dX12_become_22 (by decide) (fun hcq22 => ?_) (fun hcq22 => ?_)
      · refine e_aload_n dX12_become_43 rfl ?_
        refine e_ldc dX12_become_44 w_1294 ?_
        refine c_V1i (nc := 0) (ns := 0) (mc := 0) (ms := 0) (N := mX12_finding) dX12_become_46 lv_X12_90 mo_X12_finding hR.cn (Nat.le_of_ble_eq_true rfl) (Nat.le_of_ble_eq_true rfl) (by decide) (s_finding D hR 1 (by decide) (((-1000000001))) fE1) (fun h hP => ?_)
        obtain ⟨hR, hF1⟩ := hP
        have hF := hF.trans hF1
        have hS := hS.er 1
        refine e_top (lowE 1) lE1 ?_
        have e9 : f_become s v w x = er 1 (s) := by rw [f_become, if_pos hcq6, if_pos hcq15, if_neg hcq22]
        rw [e9] at hp
        exact e_iret dX12_become_49 rfl (hp _ ⟨⟨_, _, hR, hS⟩, hF⟩)
      · refine e_aload_n dX12_become_25 rfl ?_
        refine e_bipush (nI (16)) dX12_become_26 (by decide) ?_
        refine e_iconst (nI (4)) dX12_become_28 (by decide) ?_
        refine e_iload_n dX12_become_29 rfl ?_
        refine e_top (nI (tn v)) (hn_v) ?_
        refine e_imulN dX12_become_30 ?_
        refine e_iaddN dX12_become_31 ?_
        refine e_iconst (nI (1)) dX12_become_32 (by decide) ?_
        refine e_iaddN dX12_become_33 ?_
        refine e_iload_n dX12_become_34 rfl ?_
        refine e_top (nI (tn w)) (hn_w) ?_
        refine e_iaddN dX12_become_35 ?_
        refine e_iload_n dX12_become_36 rfl ?_
        refine c_V2i (nc := 0) (ns := 0) (mc := 0) (ms := 0) (N := mX12_put) dX12_become_37 lv_X12_113 mo_X12_put hR.cn (Nat.le_of_ble_eq_true rfl) (Nat.le_of_ble_eq_true rfl) (by decide) (s_put D hR (((16 + (4 * (tn v))) + 1) + (tn w)) (by omega) ((x))) (fun h hP => ?_)
        obtain ⟨hR, hF1⟩ := hP
        have hF := hF.trans hF1
        refine e_goto 49 dX12_become_40 (by decide) ?_
        have e9 : f_become s v w x = (((sN s) (((16 + (4 * (tn v))) + 1) + (tn w))), wN s (upd (sN s) (((16 + (4 * (tn v))) + 1) + (tn w)) ((x)))) := by rw [f_become, if_pos hcq6, if_pos hcq15, if_pos hcq22]
        rw [e9] at hp
        exact e_iret dX12_become_49 rfl (hp _ ⟨⟨_, _, hR, hS⟩, hF⟩)
set_option maxRecDepth 20000 in
theorem rp_pace (D : En) {h : AH} {s : SS} (hI : INV s) (hRS : RefS h s) (x : Int32) : Sp D 1 mX12_pace [.ref (82), .int (x)] h 0 0 (some (.int (f_pace s x).1)) (fun h' => RefS h' (f_pace s x).2 ∧ FrR h h') := by
  obtain ⟨σ, τ, hR, hS⟩ := hRS
  have hY := hI.1.1
  have hnv := hY.2.1
  have htc10 := hY.2.2.2.1
  obtain ⟨h00, hh00⟩ : ∃ z, z = h := ⟨_, rfl⟩
  have hF : FrR h00 h := by rw [hh00]; exact FrR.rf
  intro post hp
  rw [← hh00] at hp
  show Ev D 1 mX12_pace 0 [some (.ref (82)), some (.int (x))] [] h 0 0 post
  refine e_iload_n dX12_pace_0 rfl ?_
  refine e_iconst (nI (1)) dX12_pace_1 (by decide) ?_
  refine e_bipush (nI (9)) dX12_pace_2 (by decide) ?_
  refine c_S3iR (N := mX12_within) dX12_pace_4 ls_X12_76 mo_X12_within  (Nat.le_of_ble_eq_true rfl) (Nat.le_of_ble_eq_true rfl) (by decide) (s_within D ((x)) (nI (1)) (nI (9))) ?_
  refine e_if_eqB 20 dX12_pace_7 (by decide) (fun hcq7 => ?_) (fun hcq7 => ?_)
  · refine e_aload_n dX12_pace_20 rfl ?_
    refine e_ldc dX12_pace_21 w_1294 ?_
    refine c_V1i (nc := 0) (ns := 0) (mc := 0) (ms := 0) (N := mX12_finding) dX12_pace_23 lv_X12_90 mo_X12_finding hR.cn (Nat.le_of_ble_eq_true rfl) (Nat.le_of_ble_eq_true rfl) (by decide) (s_finding D hR 1 (by decide) (((-1000000001))) fE1) (fun h hP => ?_)
    obtain ⟨hR, hF1⟩ := hP
    have hF := hF.trans hF1
    have hS := hS.er 1
    refine e_top (lowE 1) lE1 ?_
    have e9 : f_pace s x = er 1 (s) := by rw [f_pace, if_neg hcq7]
    rw [e9] at hp
    exact e_iret dX12_pace_26 rfl (hp _ ⟨⟨_, _, hR, hS⟩, hF⟩)
  · obtain ⟨hn_x, hg_x, hl_x⟩ := wiN hcq7 (by decide) (by decide)
    refine e_aload_n dX12_pace_10 rfl ?_
    refine e_bipush (nI (6)) dX12_pace_11 (by decide) ?_
    refine e_iload_n dX12_pace_13 rfl ?_
    refine c_V2i (nc := 0) (ns := 0) (mc := 0) (ms := 0) (N := mX12_put) dX12_pace_14 lv_X12_113 mo_X12_put hR.cn (Nat.le_of_ble_eq_true rfl) (Nat.le_of_ble_eq_true rfl) (by decide) (s_put D hR (6) (by omega) ((x))) (fun h hP => ?_)
    obtain ⟨hR, hF1⟩ := hP
    have hF := hF.trans hF1
    refine e_goto 26 dX12_pace_17 (by decide) ?_
    have e9 : f_pace s x = (((sN s) (6)), wN s (upd (sN s) (6) ((x)))) := by rw [f_pace, if_pos hcq7]
    rw [e9] at hp
    exact e_iret dX12_pace_26 rfl (hp _ ⟨⟨_, _, hR, hS⟩, hF⟩)
set_option maxRecDepth 20000 in
theorem rp_way (D : En) {h : AH} {s : SS} (hI : INV s) (hRS : RefS h s) (a : Int32) (b : Int32) : Sp D 2 mX12_way [.ref (82), .int (a), .int (b)] h 0 0 (some (.int (f_way s a b).1)) (fun h' => RefS h' (f_way s a b).2 ∧ FrR h h') := by
  obtain ⟨σ, τ, hR, hS⟩ := hRS
  have hY := hI.1.1
  have hnv := hY.2.1
  have htc10 := hY.2.2.2.1
  obtain ⟨h00, hh00⟩ : ∃ z, z = h := ⟨_, rfl⟩
  have hF : FrR h00 h := by rw [hh00]; exact FrR.rf
  intro post hp
  rw [← hh00] at hp
  show Ev D 2 mX12_way 0 [some (.ref (82)), some (.int (a)), some (.int (b))] [] h 0 0 post
  refine e_aload_n dX12_way_0 rfl ?_
  refine e_iload_n dX12_way_1 rfl ?_
  refine e_iconst (nI (1)) dX12_way_2 (by decide) ?_
  refine c_V2iR (N := mX12_is) dX12_way_3 lv_X12_103 mo_X12_is hR.cn (Nat.le_of_ble_eq_true rfl) (Nat.le_of_ble_eq_true rfl) (by decide) (s_is D hR ((a)) (1) (by omega)) ?_
  refine e_if_eqB 27 dX12_way_6 (by decide) (fun hcq6 => ?_) (fun hcq6 => ?_)
  · refine e_aload_n dX12_way_27 rfl ?_
    refine e_ldc dX12_way_28 w_1294 ?_
    refine c_V1i (nc := 0) (ns := 0) (mc := 0) (ms := 0) (N := mX12_finding) dX12_way_30 lv_X12_90 mo_X12_finding hR.cn (Nat.le_of_ble_eq_true rfl) (Nat.le_of_ble_eq_true rfl) (by decide) (s_finding D hR 1 (by decide) (((-1000000001))) fE1) (fun h hP => ?_)
    obtain ⟨hR, hF1⟩ := hP
    have hF := hF.trans hF1
    have hS := hS.er 1
    refine e_top (lowE 1) lE1 ?_
    have e9 : f_way s a b = er 1 (s) := by rw [f_way, if_neg hcq6]
    rw [e9] at hp
    exact e_iret dX12_way_33 rfl (hp _ ⟨⟨_, _, hR, hS⟩, hF⟩)
  · obtain ⟨hn_a, hl_a⟩ := isN hcq6 hY.1 (by omega)
    refine e_aload_n dX12_way_9 rfl ?_
    refine e_iload_n dX12_way_10 rfl ?_
    refine e_iconst (nI (1)) dX12_way_11 (by decide) ?_
    refine c_V2iR (N := mX12_is) dX12_way_12 lv_X12_103 mo_X12_is hR.cn (Nat.le_of_ble_eq_true rfl) (Nat.le_of_ble_eq_true rfl) (by decide) (s_is D hR ((b)) (1) (by omega)) ?_
    refine e_if_eqB 27 dX12_way_15 (by decide) (fun hcq15 => ?_) (fun hcq15 => ?_)
    · refine e_aload_n dX12_way_27 rfl ?_
      refine e_ldc dX12_way_28 w_1294 ?_
      refine c_V1i (nc := 0) (ns := 0) (mc := 0) (ms := 0) (N := mX12_finding) dX12_way_30 lv_X12_90 mo_X12_finding hR.cn (Nat.le_of_ble_eq_true rfl) (Nat.le_of_ble_eq_true rfl) (by decide) (s_finding D hR 1 (by decide) (((-1000000001))) fE1) (fun h hP => ?_)
      obtain ⟨hR, hF1⟩ := hP
      have hF := hF.trans hF1
      have hS := hS.er 1
      refine e_top (lowE 1) lE1 ?_
      have e9 : f_way s a b = er 1 (s) := by rw [f_way, if_pos hcq6, if_neg hcq15]
      rw [e9] at hp
      exact e_iret dX12_way_33 rfl (hp _ ⟨⟨_, _, hR, hS⟩, hF⟩)
    · obtain ⟨hn_b, hl_b⟩ := isN hcq15 hY.1 (by omega)
      refine e_aload_n dX12_way_18 rfl ?_
      refine e_iload_n dX12_way_19 rfl ?_
      refine e_top (nI (tn a)) (hn_a) ?_
      refine e_iload_n dX12_way_20 rfl ?_
      refine e_top (nI (tn b)) (hn_b) ?_
      refine c_V2iR (N := mX12_wayOf) dX12_way_21 lv_X12_129 mo_X12_wayOf hR.cn (Nat.le_of_ble_eq_true rfl) (Nat.le_of_ble_eq_true rfl) (by decide) (s_wayOf D hR (tn a) (tn b) (by omega) (by omega)) ?_
      refine e_goto 33 dX12_way_24 (by decide) ?_
      have e9 : f_way s a b = ((wayR (sN s) (tn a) (tn b)), s) := by rw [f_way, if_pos hcq6, if_pos hcq15]
      rw [e9] at hp
      exact e_iret dX12_way_33 rfl (hp _ ⟨⟨_, _, hR, hS⟩, hF⟩)
set_option maxRecDepth 20000 in
theorem rp_mend (D : En) {h : AH} {s : SS} (hI : INV s) (hRS : RefS h s) (a : Int32) (b : Int32) (x : Int32) : Sp D 2 mX12_mend [.ref (82), .int (a), .int (b), .int (x)] h 0 0 (some (.int (f_mend s a b x).1)) (fun h' => RefS h' (f_mend s a b x).2 ∧ FrR h h') := by
  obtain ⟨σ, τ, hR, hS⟩ := hRS
  have hY := hI.1.1
  have hnv := hY.2.1
  have htc10 := hY.2.2.2.1
  obtain ⟨h00, hh00⟩ : ∃ z, z = h := ⟨_, rfl⟩
  have hF : FrR h00 h := by rw [hh00]; exact FrR.rf
  intro post hp
  rw [← hh00] at hp
  show Ev D 2 mX12_mend 0 [some (.ref (82)), some (.int (a)), some (.int (b)), some (.int (x))] [] h 0 0 post
  refine e_aload_n dX12_mend_0 rfl ?_
  refine e_iload_n dX12_mend_1 rfl ?_
  refine e_iconst (nI (1)) dX12_mend_2 (by decide) ?_
  refine c_V2iR (N := mX12_is) dX12_mend_3 lv_X12_103 mo_X12_is hR.cn (Nat.le_of_ble_eq_true rfl) (Nat.le_of_ble_eq_true rfl) (by decide) (s_is D hR ((a)) (1) (by omega)) ?_
  refine e_if_eqB 42 dX12_mend_6 (by decide) (fun hcq6 => ?_) (fun hcq6 => ?_)
  · refine e_aload_n dX12_mend_42 rfl ?_
    refine e_ldc dX12_mend_43 w_1294 ?_
    refine c_V1i (nc := 0) (ns := 0) (mc := 0) (ms := 0) (N := mX12_finding) dX12_mend_45 lv_X12_90 mo_X12_finding hR.cn (Nat.le_of_ble_eq_true rfl) (Nat.le_of_ble_eq_true rfl) (by decide) (s_finding D hR 1 (by decide) (((-1000000001))) fE1) (fun h hP => ?_)
    obtain ⟨hR, hF1⟩ := hP
    have hF := hF.trans hF1
    have hS := hS.er 1
    refine e_top (lowE 1) lE1 ?_
    have e9 : f_mend s a b x = er 1 (s) := by rw [f_mend, if_neg hcq6]
    rw [e9] at hp
    exact e_iret dX12_mend_48 rfl (hp _ ⟨⟨_, _, hR, hS⟩, hF⟩)
  · obtain ⟨hn_a, hl_a⟩ := isN hcq6 hY.1 (by omega)
    refine e_aload_n dX12_mend_9 rfl ?_
    refine e_iload_n dX12_mend_10 rfl ?_
    refine e_iconst (nI (1)) dX12_mend_11 (by decide) ?_
    refine c_V2iR (N := mX12_is) dX12_mend_12 lv_X12_103 mo_X12_is hR.cn (Nat.le_of_ble_eq_true rfl) (Nat.le_of_ble_eq_true rfl) (by decide) (s_is D hR ((b)) (1) (by omega)) ?_
    refine e_if_eqB 42 dX12_mend_15 (by decide) (fun hcq15 => ?_) (fun hcq15 => ?_)
    · refine e_aload_n dX12_mend_42 rfl ?_
      refine e_ldc dX12_mend_43 w_1294 ?_
      refine c_V1i (nc := 0) (ns := 0) (mc := 0) (ms := 0) (N := mX12_finding) dX12_mend_45 lv_X12_90 mo_X12_finding hR.cn (Nat.le_of_ble_eq_true rfl) (Nat.le_of_ble_eq_true rfl) (by decide) (s_finding D hR 1 (by decide) (((-1000000001))) fE1) (fun h hP => ?_)
      obtain ⟨hR, hF1⟩ := hP
      have hF := hF.trans hF1
      have hS := hS.er 1
      refine e_top (lowE 1) lE1 ?_
      have e9 : f_mend s a b x = er 1 (s) := by rw [f_mend, if_pos hcq6, if_neg hcq15]
      rw [e9] at hp
      exact e_iret dX12_mend_48 rfl (hp _ ⟨⟨_, _, hR, hS⟩, hF⟩)
    · obtain ⟨hn_b, hl_b⟩ := isN hcq15 hY.1 (by omega)
      refine e_iload_n dX12_mend_18 rfl ?_
      refine e_top (nI (tn a)) (hn_a) ?_
      refine e_iload_n dX12_mend_19 rfl ?_
      refine e_top (nI (tn b)) (hn_b) ?_
      refine e_icmp_eqN 42 dX12_mend_20 (by decide) (by omega) (by omega) (fun hcq20 => ?_) (fun hcq20 => ?_)
      · refine e_aload_n dX12_mend_42 rfl ?_
        refine e_ldc dX12_mend_43 w_1294 ?_
        refine c_V1i (nc := 0) (ns := 0) (mc := 0) (ms := 0) (N := mX12_finding) dX12_mend_45 lv_X12_90 mo_X12_finding hR.cn (Nat.le_of_ble_eq_true rfl) (Nat.le_of_ble_eq_true rfl) (by decide) (s_finding D hR 1 (by decide) (((-1000000001))) fE1) (fun h hP => ?_)
        obtain ⟨hR, hF1⟩ := hP
        have hF := hF.trans hF1
        have hS := hS.er 1
        refine e_top (lowE 1) lE1 ?_
        have e9 : f_mend s a b x = er 1 (s) := by rw [f_mend, if_pos hcq6, if_pos hcq15, if_pos hcq20]
        rw [e9] at hp
        exact e_iret dX12_mend_48 rfl (hp _ ⟨⟨_, _, hR, hS⟩, hF⟩)
      · refine e_iload_n dX12_mend_23 rfl ?_
        refine e_iconst (nI (0)) dX12_mend_24 (by decide) ?_
        refine e_iconst (nI (1)) dX12_mend_25 (by decide) ?_
        refine c_S3iR (N := mX12_within) dX12_mend_26 ls_X12_76 mo_X12_within  (Nat.le_of_ble_eq_true rfl) (Nat.le_of_ble_eq_true rfl) (by decide) (s_within D ((x)) (nI (0)) (nI (1))) ?_
        refine e_if_eqB 42 dX12_mend_29 (by decide) (fun hcq29 => ?_) (fun hcq29 => ?_)
        · refine e_aload_n dX12_mend_42 rfl ?_
          refine e_ldc dX12_mend_43 w_1294 ?_
          refine c_V1i (nc := 0) (ns := 0) (mc := 0) (ms := 0) (N := mX12_finding) dX12_mend_45 lv_X12_90 mo_X12_finding hR.cn (Nat.le_of_ble_eq_true rfl) (Nat.le_of_ble_eq_true rfl) (by decide) (s_finding D hR 1 (by decide) (((-1000000001))) fE1) (fun h hP => ?_)
          obtain ⟨hR, hF1⟩ := hP
          have hF := hF.trans hF1
          have hS := hS.er 1
          refine e_top (lowE 1) lE1 ?_
          have e9 : f_mend s a b x = er 1 (s) := by rw [f_mend, if_pos hcq6, if_pos hcq15, if_neg hcq20, if_neg hcq29]
          rw [e9] at hp
          exact e_iret dX12_mend_48 rfl (hp _ ⟨⟨_, _, hR, hS⟩, hF⟩)
        · obtain ⟨hn_x, hg_x, hl_x⟩ := wiN hcq29 (by decide) (by decide)
          refine e_aload_n dX12_mend_32 rfl ?_
          refine e_iload_n dX12_mend_33 rfl ?_
          refine e_top (nI (tn a)) (hn_a) ?_
          refine e_iload_n dX12_mend_34 rfl ?_
          refine e_top (nI (tn b)) (hn_b) ?_
          refine e_iload_n dX12_mend_35 rfl ?_
          refine c_V3i (nc := 0) (ns := 0) (mc := 0) (ms := 0) (N := mX12_mends) dX12_mend_36 lv_X12_132 mo_X12_mends hR.cn (Nat.le_of_ble_eq_true rfl) (Nat.le_of_ble_eq_true rfl) (by decide) (s_mends D hR (tn a) (tn b) (by omega) (by omega) (by omega) ((x))) (fun h hP => ?_)
          obtain ⟨hR, hF1⟩ := hP
          have hF := hF.trans hF1
          refine e_goto 48 dX12_mend_39 (by decide) ?_
          have e9 : f_mend s a b x = (((sN s) (48 + 8 * (tn a) + (tn b))), wN s (upd (upd (sN s) (48 + 8 * (tn b) + (tn a)) ((x))) (48 + 8 * (tn a) + (tn b)) ((x)))) := by rw [f_mend, if_pos hcq6, if_pos hcq15, if_neg hcq20, if_pos hcq29]
          rw [e9] at hp
          exact e_iret dX12_mend_48 rfl (hp _ ⟨⟨_, _, hR, hS⟩, hF⟩)
set_option maxRecDepth 20000 in
theorem rp_thing (D : En) {h : AH} {s : SS} (hI : INV s) (hRS : RefS h s) (kv : Int32) (c : Int32) (l : Int32) (r : Int32) : Sp D 2 mX12_thing_ [.ref (82), .int (kv), .int (c), .int (l), .int (r)] h 0 0 (some (.int (f_thing s kv c l r).1)) (fun h' => RefS h' (f_thing s kv c l r).2 ∧ FrR h h') := by
  obtain ⟨σ, τ, hR, hS⟩ := hRS
  have hY := hI.1.1
  have hnv := hY.2.1
  have htc10 := hY.2.2.2.1
  obtain ⟨h00, hh00⟩ : ∃ z, z = h := ⟨_, rfl⟩
  have hF : FrR h00 h := by rw [hh00]; exact FrR.rf
  intro post hp
  rw [← hh00] at hp
  show Ev D 2 mX12_thing_ 0 [some (.ref (82)), some (.int (kv)), some (.int (c)), some (.int (l)), some (.int (r))] [] h 0 0 post
  refine e_iload_n dX12_thing__0 rfl ?_
  refine e_iconst (nI (0)) dX12_thing__1 (by decide) ?_
  refine e_bipush (nI (69)) dX12_thing__2 (by decide) ?_
  refine c_S3iR (N := mX12_within) dX12_thing__4 ls_X12_76 mo_X12_within  (Nat.le_of_ble_eq_true rfl) (Nat.le_of_ble_eq_true rfl) (by decide) (s_within D ((kv)) (nI (0)) (nI (69))) ?_
  refine e_if_eqB 56 dX12_thing__7 (by decide) (fun hcq7 => ?_) (fun hcq7 => ?_)
  · refine e_aload_n dX12_thing__56 rfl ?_
    refine e_ldc dX12_thing__57 w_1294 ?_
    refine c_V1i (nc := 0) (ns := 0) (mc := 0) (ms := 0) (N := mX12_finding) dX12_thing__59 lv_X12_90 mo_X12_finding hR.cn (Nat.le_of_ble_eq_true rfl) (Nat.le_of_ble_eq_true rfl) (by decide) (s_finding D hR 1 (by decide) (((-1000000001))) fE1) (fun h hP => ?_)
    obtain ⟨hR, hF1⟩ := hP
    have hF := hF.trans hF1
    have hS := hS.er 1
    refine e_top (lowE 1) lE1 ?_
    have e9 : f_thing s kv c l r = er 1 (s) := by rw [f_thing, if_neg hcq7]
    rw [e9] at hp
    exact e_iret dX12_thing__62 rfl (hp _ ⟨⟨_, _, hR, hS⟩, hF⟩)
  · obtain ⟨hn_kv, hg_kv, hl_kv⟩ := wiN hcq7 (by decide) (by decide)
    have hm9 := Nat.mod_lt (tn kv) (show 0 < 10 by decide)
    refine e_aload_n dX12_thing__10 rfl ?_
    refine e_iload_n dX12_thing__11 rfl ?_
    refine e_top (nI (tn kv)) (hn_kv) ?_
    refine e_bipush (nI (10)) dX12_thing__12 (by decide) ?_
    refine e_iremN dX12_thing__14 (by omega) (by omega) (by omega) ?_
    refine e_iconst (nI (1)) dX12_thing__15 (by decide) ?_
    refine c_V2iR (N := mX12_is) dX12_thing__16 lv_X12_103 mo_X12_is hR.cn (Nat.le_of_ble_eq_true rfl) (Nat.le_of_ble_eq_true rfl) (by decide) (s_is D hR (nI ((tn kv) % 10)) (1) (by omega)) ?_
    refine e_if_eqB 56 dX12_thing__19 (by decide) (fun hcq19 => ?_) (fun hcq19 => ?_)
    · refine e_aload_n dX12_thing__56 rfl ?_
      refine e_ldc dX12_thing__57 w_1294 ?_
      refine c_V1i (nc := 0) (ns := 0) (mc := 0) (ms := 0) (N := mX12_finding) dX12_thing__59 lv_X12_90 mo_X12_finding hR.cn (Nat.le_of_ble_eq_true rfl) (Nat.le_of_ble_eq_true rfl) (by decide) (s_finding D hR 1 (by decide) (((-1000000001))) fE1) (fun h hP => ?_)
      obtain ⟨hR, hF1⟩ := hP
      have hF := hF.trans hF1
      have hS := hS.er 1
      refine e_top (lowE 1) lE1 ?_
      have e9 : f_thing s kv c l r = er 1 (s) := by rw [f_thing, if_pos hcq7, if_neg hcq19]
      rw [e9] at hp
      exact e_iret dX12_thing__62 rfl (hp _ ⟨⟨_, _, hR, hS⟩, hF⟩)
    · refine e_iload_n dX12_thing__22 rfl ?_
      refine e_iconst (nI (0)) dX12_thing__23 (by decide) ?_
      refine e_sipush (nI (999)) dX12_thing__24 (by decide) ?_
      refine c_S3iR (N := mX12_within) dX12_thing__27 ls_X12_76 mo_X12_within  (Nat.le_of_ble_eq_true rfl) (Nat.le_of_ble_eq_true rfl) (by decide) (s_within D ((c)) (nI (0)) (nI (999))) ?_
      refine e_if_eqB 56 dX12_thing__30 (by decide) (fun hcq30 => ?_) (fun hcq30 => ?_)
      · refine e_aload_n dX12_thing__56 rfl ?_
        refine e_ldc dX12_thing__57 w_1294 ?_
        refine c_V1i (nc := 0) (ns := 0) (mc := 0) (ms := 0) (N := mX12_finding) dX12_thing__59 lv_X12_90 mo_X12_finding hR.cn (Nat.le_of_ble_eq_true rfl) (Nat.le_of_ble_eq_true rfl) (by decide) (s_finding D hR 1 (by decide) (((-1000000001))) fE1) (fun h hP => ?_)
        obtain ⟨hR, hF1⟩ := hP
        have hF := hF.trans hF1
        have hS := hS.er 1
        refine e_top (lowE 1) lE1 ?_
        have e9 : f_thing s kv c l r = er 1 (s) := by rw [f_thing, if_pos hcq7, if_pos hcq19, if_neg hcq30]
        rw [e9] at hp
        exact e_iret dX12_thing__62 rfl (hp _ ⟨⟨_, _, hR, hS⟩, hF⟩)
      · obtain ⟨hn_c, hg_c, hl_c⟩ := wiN hcq30 (by decide) (by decide)
        refine e_iload_n dX12_thing__33 rfl ?_
        refine e_iconst (nI (0)) dX12_thing__34 (by decide) ?_
        refine e_sipush (nI (9999)) dX12_thing__35 (by decide) ?_
        refine c_S3iR (N := mX12_within) dX12_thing__38 ls_X12_76 mo_X12_within  (Nat.le_of_ble_eq_true rfl) (Nat.le_of_ble_eq_true rfl) (by decide) (s_within D ((l)) (nI (0)) (nI (9999))) ?_
        refine e_if_eqB 56 dX12_thing__41 (by decide) (fun hcq41 => ?_) (fun hcq41 => ?_)
        · refine e_aload_n dX12_thing__56 rfl ?_
          refine e_ldc dX12_thing__57 w_1294 ?_
          refine c_V1i (nc := 0) (ns := 0) (mc := 0) (ms := 0) (N := mX12_finding) dX12_thing__59 lv_X12_90 mo_X12_finding hR.cn (Nat.le_of_ble_eq_true rfl) (Nat.le_of_ble_eq_true rfl) (by decide) (s_finding D hR 1 (by decide) (((-1000000001))) fE1) (fun h hP => ?_)
          obtain ⟨hR, hF1⟩ := hP
          have hF := hF.trans hF1
          have hS := hS.er 1
          refine e_top (lowE 1) lE1 ?_
          have e9 : f_thing s kv c l r = er 1 (s) := by rw [f_thing, if_pos hcq7, if_pos hcq19, if_pos hcq30, if_neg hcq41]
          rw [e9] at hp
          exact e_iret dX12_thing__62 rfl (hp _ ⟨⟨_, _, hR, hS⟩, hF⟩)
        · obtain ⟨hn_l, hg_l, hl_l⟩ := wiN hcq41 (by decide) (by decide)
          refine e_iload dX12_thing__44 rfl ?_
          refine e_iconst (nI (0)) dX12_thing__46 (by decide) ?_
          refine e_sipush (nI (300)) dX12_thing__47 (by decide) ?_
          refine c_S3iR (N := mX12_within) dX12_thing__50 ls_X12_76 mo_X12_within  (Nat.le_of_ble_eq_true rfl) (Nat.le_of_ble_eq_true rfl) (by decide) (s_within D ((r)) (nI (0)) (nI (300))) ?_
          refine e_if_neB 63 dX12_thing__53 (by decide) (fun hcq53 => ?_) (fun hcq53 => ?_)
          · obtain ⟨hn_r, hg_r, hl_r⟩ := wiN hcq53 (by decide) (by decide)
            refine e_aload_n dX12_thing__63 rfl ?_
            refine e_get dX12_thing__64 fl_X12_9_12 hR.1 rfl ?_
            refine e_iconst (nI (2)) dX12_thing__67 (by decide) ?_
            refine e_ild (2) (nI (tcN (sN s))) dX12_thing__68 hR.2.1 rfl (by omega) (by decide) hY.2.2.1 ?_
            refine e_bipush (nI (10)) dX12_thing__69 (by decide) ?_
            refine e_icmp_neN 83 dX12_thing__71 (by decide) (by omega) (by omega) (fun hcq71 => ?_) (fun hcq71 => ?_)
            · refine e_aload_n dX12_thing__83 rfl ?_
              refine e_iload_n dX12_thing__84 rfl ?_
              refine e_top (nI (tn kv)) (hn_kv) ?_
              refine e_bipush (nI (10)) dX12_thing__85 (by decide) ?_
              refine e_idivN dX12_thing__87 (by omega) (by omega) (by omega) ?_
              refine e_iload_n dX12_thing__88 rfl ?_
              refine e_top (nI (tn kv)) (hn_kv) ?_
              refine e_bipush (nI (10)) dX12_thing__89 (by decide) ?_
              refine e_iremN dX12_thing__91 (by omega) (by omega) (by omega) ?_
              refine e_iload_n dX12_thing__92 rfl ?_
              refine e_iload_n dX12_thing__93 rfl ?_
              refine e_iload dX12_thing__94 rfl ?_
              refine c_V5i (nc := 0) (ns := 0) (mc := 0) (ms := 0) (N := mX12_stands) dX12_thing__96 lv_X12_139 mo_X12_stands hR.cn (Nat.le_of_ble_eq_true rfl) (Nat.le_of_ble_eq_true rfl) (by decide) (s_stands D hR (tcN (sN s)) (by omega) hY.2.2.1 (nI ((tn kv) / 10)) (nI ((tn kv) % 10)) ((c)) ((l)) ((r))) (fun h hP => ?_)
              obtain ⟨hR, hF1⟩ := hP
              have hF := hF.trans hF1
              have e9 : f_thing s kv c l r = (nI (tcN (sN s)), wN s (standR (sN s) (tcN (sN s)) (nI ((tn kv) / 10)) (nI ((tn kv) % 10)) ((c)) ((l)) ((r)))) := by rw [f_thing, if_pos hcq7, if_pos hcq19, if_pos hcq30, if_pos hcq41, if_pos hcq53, if_neg hcq71]
              rw [e9] at hp
              exact e_iret dX12_thing__99 rfl (hp _ ⟨⟨_, _, hR, hS⟩, hF⟩)
            · refine e_aload_n dX12_thing__74 rfl ?_
              refine e_ldc dX12_thing__75 w_1300 ?_
              refine c_V1i (nc := 0) (ns := 0) (mc := 0) (ms := 0) (N := mX12_finding) dX12_thing__77 lv_X12_90 mo_X12_finding hR.cn (Nat.le_of_ble_eq_true rfl) (Nat.le_of_ble_eq_true rfl) (by decide) (s_finding D hR 4 (by decide) (((-1000000004))) fE4) (fun h hP => ?_)
              obtain ⟨hR, hF1⟩ := hP
              have hF := hF.trans hF1
              have hS := hS.er 4
              refine e_top (lowE 4) lE4 ?_
              refine e_goto 99 dX12_thing__80 (by decide) ?_
              have e9 : f_thing s kv c l r = er 4 (s) := by rw [f_thing, if_pos hcq7, if_pos hcq19, if_pos hcq30, if_pos hcq41, if_pos hcq53, if_pos hcq71]
              rw [e9] at hp
              exact e_iret dX12_thing__99 rfl (hp _ ⟨⟨_, _, hR, hS⟩, hF⟩)
          · refine e_aload_n dX12_thing__56 rfl ?_
            refine e_ldc dX12_thing__57 w_1294 ?_
            refine c_V1i (nc := 0) (ns := 0) (mc := 0) (ms := 0) (N := mX12_finding) dX12_thing__59 lv_X12_90 mo_X12_finding hR.cn (Nat.le_of_ble_eq_true rfl) (Nat.le_of_ble_eq_true rfl) (by decide) (s_finding D hR 1 (by decide) (((-1000000001))) fE1) (fun h hP => ?_)
            obtain ⟨hR, hF1⟩ := hP
            have hF := hF.trans hF1
            have hS := hS.er 1
            refine e_top (lowE 1) lE1 ?_
            have e9 : f_thing s kv c l r = er 1 (s) := by rw [f_thing, if_pos hcq7, if_pos hcq19, if_pos hcq30, if_pos hcq41, if_neg hcq53]
            rw [e9] at hp
            exact e_iret dX12_thing__62 rfl (hp _ ⟨⟨_, _, hR, hS⟩, hF⟩)
set_option maxRecDepth 20000 in
theorem rp_open (D : En) {h : AH} {s : SS} (hI : INV s) (hRS : RefS h s) (t : Int32) (x : Int32) : Sp D 2 mX12_open [.ref (82), .int (t), .int (x)] h 0 0 (some (.int (f_open s t x).1)) (fun h' => RefS h' (f_open s t x).2 ∧ FrR h h') := by
  obtain ⟨σ, τ, hR, hS⟩ := hRS
  have hY := hI.1.1
  have hnv := hY.2.1
  have htc10 := hY.2.2.2.1
  obtain ⟨h00, hh00⟩ : ∃ z, z = h := ⟨_, rfl⟩
  have hF : FrR h00 h := by rw [hh00]; exact FrR.rf
  intro post hp
  rw [← hh00] at hp
  show Ev D 2 mX12_open 0 [some (.ref (82)), some (.int (t)), some (.int (x))] [] h 0 0 post
  refine e_aload_n dX12_open_0 rfl ?_
  refine e_iload_n dX12_open_1 rfl ?_
  refine e_iconst (nI (2)) dX12_open_2 (by decide) ?_
  refine c_V2iR (N := mX12_is) dX12_open_3 lv_X12_103 mo_X12_is hR.cn (Nat.le_of_ble_eq_true rfl) (Nat.le_of_ble_eq_true rfl) (by decide) (s_is D hR ((t)) (2) (by omega)) ?_
  refine e_if_eqB 35 dX12_open_6 (by decide) (fun hcq6 => ?_) (fun hcq6 => ?_)
  · refine e_aload_n dX12_open_35 rfl ?_
    refine e_ldc dX12_open_36 w_1294 ?_
    refine c_V1i (nc := 0) (ns := 0) (mc := 0) (ms := 0) (N := mX12_finding) dX12_open_38 lv_X12_90 mo_X12_finding hR.cn (Nat.le_of_ble_eq_true rfl) (Nat.le_of_ble_eq_true rfl) (by decide) (s_finding D hR 1 (by decide) (((-1000000001))) fE1) (fun h hP => ?_)
    obtain ⟨hR, hF1⟩ := hP
    have hF := hF.trans hF1
    have hS := hS.er 1
    refine e_top (lowE 1) lE1 ?_
    have e9 : f_open s t x = er 1 (s) := by rw [f_open, if_neg hcq6]
    rw [e9] at hp
    exact e_iret dX12_open_41 rfl (hp _ ⟨⟨_, _, hR, hS⟩, hF⟩)
  · obtain ⟨hn_t, hl_t⟩ := isN hcq6 hY.2.2.1 (by omega)
    refine e_iload_n dX12_open_9 rfl ?_
    refine e_iconst (nI (0)) dX12_open_10 (by decide) ?_
    refine e_iconst (nI (1)) dX12_open_11 (by decide) ?_
    refine c_S3iR (N := mX12_within) dX12_open_12 ls_X12_76 mo_X12_within  (Nat.le_of_ble_eq_true rfl) (Nat.le_of_ble_eq_true rfl) (by decide) (s_within D ((x)) (nI (0)) (nI (1))) ?_
    refine e_if_eqB 35 dX12_open_15 (by decide) (fun hcq15 => ?_) (fun hcq15 => ?_)
    · refine e_aload_n dX12_open_35 rfl ?_
      refine e_ldc dX12_open_36 w_1294 ?_
      refine c_V1i (nc := 0) (ns := 0) (mc := 0) (ms := 0) (N := mX12_finding) dX12_open_38 lv_X12_90 mo_X12_finding hR.cn (Nat.le_of_ble_eq_true rfl) (Nat.le_of_ble_eq_true rfl) (by decide) (s_finding D hR 1 (by decide) (((-1000000001))) fE1) (fun h hP => ?_)
      obtain ⟨hR, hF1⟩ := hP
      have hF := hF.trans hF1
      have hS := hS.er 1
      refine e_top (lowE 1) lE1 ?_
      have e9 : f_open s t x = er 1 (s) := by rw [f_open, if_pos hcq6, if_neg hcq15]
      rw [e9] at hp
      exact e_iret dX12_open_41 rfl (hp _ ⟨⟨_, _, hR, hS⟩, hF⟩)
    · obtain ⟨hn_x, hg_x, hl_x⟩ := wiN hcq15 (by decide) (by decide)
      refine e_aload_n dX12_open_18 rfl ?_
      refine e_bipush (nI (112)) dX12_open_19 (by decide) ?_
      refine e_bipush (nI (7)) dX12_open_21 (by decide) ?_
      refine e_iload_n dX12_open_23 rfl ?_
      refine e_top (nI (tn t)) (hn_t) ?_
      refine e_imulN dX12_open_24 ?_
      refine e_iaddN dX12_open_25 ?_
      refine e_iconst (nI (5)) dX12_open_26 (by decide) ?_
      refine e_iaddN dX12_open_27 ?_
      refine e_iload_n dX12_open_28 rfl ?_
      refine c_V2i (nc := 0) (ns := 0) (mc := 0) (ms := 0) (N := mX12_put) dX12_open_29 lv_X12_113 mo_X12_put hR.cn (Nat.le_of_ble_eq_true rfl) (Nat.le_of_ble_eq_true rfl) (by decide) (s_put D hR ((112 + (7 * (tn t))) + 5) (by omega) ((x))) (fun h hP => ?_)
      obtain ⟨hR, hF1⟩ := hP
      have hF := hF.trans hF1
      refine e_goto 41 dX12_open_32 (by decide) ?_
      have e9 : f_open s t x = (((sN s) ((112 + (7 * (tn t))) + 5)), wN s (upd (sN s) ((112 + (7 * (tn t))) + 5) ((x)))) := by rw [f_open, if_pos hcq6, if_pos hcq15]
      rw [e9] at hp
      exact e_iret dX12_open_41 rfl (hp _ ⟨⟨_, _, hR, hS⟩, hF⟩)
set_option maxRecDepth 20000 in
theorem rp_promise (D : En) {h : AH} {s : SS} (hI : INV s) (hRS : RefS h s) (t : Int32) (x : Int32) : Sp D 2 mX12_promise [.ref (82), .int (t), .int (x)] h 0 0 (some (.int (f_promise s t x).1)) (fun h' => RefS h' (f_promise s t x).2 ∧ FrR h h') := by
  obtain ⟨σ, τ, hR, hS⟩ := hRS
  have hY := hI.1.1
  have hnv := hY.2.1
  have htc10 := hY.2.2.2.1
  obtain ⟨h00, hh00⟩ : ∃ z, z = h := ⟨_, rfl⟩
  have hF : FrR h00 h := by rw [hh00]; exact FrR.rf
  intro post hp
  rw [← hh00] at hp
  show Ev D 2 mX12_promise 0 [some (.ref (82)), some (.int (t)), some (.int (x))] [] h 0 0 post
  refine e_aload_n dX12_promise_0 rfl ?_
  refine e_iload_n dX12_promise_1 rfl ?_
  refine e_iconst (nI (2)) dX12_promise_2 (by decide) ?_
  refine c_V2iR (N := mX12_is) dX12_promise_3 lv_X12_103 mo_X12_is hR.cn (Nat.le_of_ble_eq_true rfl) (Nat.le_of_ble_eq_true rfl) (by decide) (s_is D hR ((t)) (2) (by omega)) ?_
  refine e_if_eqB 38 dX12_promise_6 (by decide) (fun hcq6 => ?_) (fun hcq6 => ?_)
  · refine e_aload_n dX12_promise_38 rfl ?_
    refine e_ldc dX12_promise_39 w_1294 ?_
    refine c_V1i (nc := 0) (ns := 0) (mc := 0) (ms := 0) (N := mX12_finding) dX12_promise_41 lv_X12_90 mo_X12_finding hR.cn (Nat.le_of_ble_eq_true rfl) (Nat.le_of_ble_eq_true rfl) (by decide) (s_finding D hR 1 (by decide) (((-1000000001))) fE1) (fun h hP => ?_)
    obtain ⟨hR, hF1⟩ := hP
    have hF := hF.trans hF1
    have hS := hS.er 1
    refine e_top (lowE 1) lE1 ?_
    have e9 : f_promise s t x = er 1 (s) := by rw [f_promise, if_neg hcq6]
    rw [e9] at hp
    exact e_iret dX12_promise_44 rfl (hp _ ⟨⟨_, _, hR, hS⟩, hF⟩)
  · obtain ⟨hn_t, hl_t⟩ := isN hcq6 hY.2.2.1 (by omega)
    refine e_iload_n dX12_promise_9 rfl ?_
    refine e_iconst (((-1))) dX12_promise_10 (by decide) ?_
    refine e_sipush (nI (199)) dX12_promise_11 (by decide) ?_
    refine c_S3iR (N := mX12_within) dX12_promise_14 ls_X12_76 mo_X12_within  (Nat.le_of_ble_eq_true rfl) (Nat.le_of_ble_eq_true rfl) (by decide) (s_within D ((x)) (((-1))) (nI (199))) ?_
    refine e_if_eqB 38 dX12_promise_17 (by decide) (fun hcq17 => ?_) (fun hcq17 => ?_)
    · refine e_aload_n dX12_promise_38 rfl ?_
      refine e_ldc dX12_promise_39 w_1294 ?_
      refine c_V1i (nc := 0) (ns := 0) (mc := 0) (ms := 0) (N := mX12_finding) dX12_promise_41 lv_X12_90 mo_X12_finding hR.cn (Nat.le_of_ble_eq_true rfl) (Nat.le_of_ble_eq_true rfl) (by decide) (s_finding D hR 1 (by decide) (((-1000000001))) fE1) (fun h hP => ?_)
      obtain ⟨hR, hF1⟩ := hP
      have hF := hF.trans hF1
      have hS := hS.er 1
      refine e_top (lowE 1) lE1 ?_
      have e9 : f_promise s t x = er 1 (s) := by rw [f_promise, if_pos hcq6, if_neg hcq17]
      rw [e9] at hp
      exact e_iret dX12_promise_44 rfl (hp _ ⟨⟨_, _, hR, hS⟩, hF⟩)
    · refine e_aload_n dX12_promise_20 rfl ?_
      refine e_bipush (nI (112)) dX12_promise_21 (by decide) ?_
      refine e_bipush (nI (7)) dX12_promise_23 (by decide) ?_
      refine e_iload_n dX12_promise_25 rfl ?_
      refine e_top (nI (tn t)) (hn_t) ?_
      refine e_imulN dX12_promise_26 ?_
      refine e_iaddN dX12_promise_27 ?_
      refine e_bipush (nI (6)) dX12_promise_28 (by decide) ?_
      refine e_iaddN dX12_promise_30 ?_
      refine e_iload_n dX12_promise_31 rfl ?_
      refine c_V2i (nc := 0) (ns := 0) (mc := 0) (ms := 0) (N := mX12_put) dX12_promise_32 lv_X12_113 mo_X12_put hR.cn (Nat.le_of_ble_eq_true rfl) (Nat.le_of_ble_eq_true rfl) (by decide) (s_put D hR ((112 + (7 * (tn t))) + 6) (by omega) ((x))) (fun h hP => ?_)
      obtain ⟨hR, hF1⟩ := hP
      have hF := hF.trans hF1
      refine e_goto 44 dX12_promise_35 (by decide) ?_
      have e9 : f_promise s t x = (((sN s) ((112 + (7 * (tn t))) + 6)), wN s (upd (sN s) ((112 + (7 * (tn t))) + 6) ((x)))) := by rw [f_promise, if_pos hcq6, if_pos hcq17]
      rw [e9] at hp
      exact e_iret dX12_promise_44 rfl (hp _ ⟨⟨_, _, hR, hS⟩, hF⟩)
set_option maxRecDepth 20000 in
theorem rp_seed (D : En) {h : AH} {s : SS} (hI : INV s) (hRS : RefS h s) (x : Int32) : Sp D 1 mX12_seed [.ref (82), .int (x)] h 0 0 (some (.int (f_seed s x).1)) (fun h' => RefS h' (f_seed s x).2 ∧ FrR h h') := by
  obtain ⟨σ, τ, hR, hS⟩ := hRS
  have hY := hI.1.1
  have hnv := hY.2.1
  have htc10 := hY.2.2.2.1
  obtain ⟨h00, hh00⟩ : ∃ z, z = h := ⟨_, rfl⟩
  have hF : FrR h00 h := by rw [hh00]; exact FrR.rf
  intro post hp
  rw [← hh00] at hp
  show Ev D 1 mX12_seed 0 [some (.ref (82)), some (.int (x))] [] h 0 0 post
  refine e_aload_n dX12_seed_0 rfl ?_
  refine e_iconst (nI (5)) dX12_seed_1 (by decide) ?_
  refine e_iload_n dX12_seed_2 rfl ?_
  refine c_V2i (nc := 0) (ns := 0) (mc := 0) (ms := 0) (N := mX12_put) dX12_seed_3 lv_X12_113 mo_X12_put hR.cn (Nat.le_of_ble_eq_true rfl) (Nat.le_of_ble_eq_true rfl) (by decide) (s_put D hR (5) (by omega) ((x))) (fun h hP => ?_)
  obtain ⟨hR, hF1⟩ := hP
  have hF := hF.trans hF1
  have e9 : f_seed s x = (((sN s) (5)), wN s (upd (sN s) (5) ((x)))) := by rw [f_seed]
  rw [e9] at hp
  exact e_iret dX12_seed_6 rfl (hp _ ⟨⟨_, _, hR, hS⟩, hF⟩)
set_option maxRecDepth 20000 in
theorem rp_told (D : En) {h : AH} {s : SS} (hI : INV s) (hRS : RefS h s) (k : Int32) : Sp D 1 mX12_told [.ref (82), .int (k)] h 0 0 (some (.int (f_told s k).1)) (fun h' => RefS h' (f_told s k).2 ∧ FrR h h') := by
  obtain ⟨σ, τ, hR, hS⟩ := hRS
  have hY := hI.1.1
  have hnv := hY.2.1
  have htc10 := hY.2.2.2.1
  obtain ⟨h00, hh00⟩ : ∃ z, z = h := ⟨_, rfl⟩
  have hF : FrR h00 h := by rw [hh00]; exact FrR.rf
  intro post hp
  rw [← hh00] at hp
  show Ev D 1 mX12_told 0 [some (.ref (82)), some (.int (k))] [] h 0 0 post
  refine e_iload_n dX12_told_0 rfl ?_
  refine e_iconst (nI (1)) dX12_told_1 (by decide) ?_
  refine e_iconst (nI (5)) dX12_told_2 (by decide) ?_
  refine c_S3iR (N := mX12_within) dX12_told_3 ls_X12_76 mo_X12_within  (Nat.le_of_ble_eq_true rfl) (Nat.le_of_ble_eq_true rfl) (by decide) (s_within D ((k)) (nI (1)) (nI (5))) ?_
  refine e_if_eqB 18 dX12_told_6 (by decide) (fun hcq6 => ?_) (fun hcq6 => ?_)
  · refine e_aload_n dX12_told_18 rfl ?_
    refine e_ldc dX12_told_19 w_1294 ?_
    refine c_V1i (nc := 0) (ns := 0) (mc := 0) (ms := 0) (N := mX12_finding) dX12_told_21 lv_X12_90 mo_X12_finding hR.cn (Nat.le_of_ble_eq_true rfl) (Nat.le_of_ble_eq_true rfl) (by decide) (s_finding D hR 1 (by decide) (((-1000000001))) fE1) (fun h hP => ?_)
    obtain ⟨hR, hF1⟩ := hP
    have hF := hF.trans hF1
    have hS := hS.er 1
    refine e_top (lowE 1) lE1 ?_
    have e9 : f_told s k = er 1 (s) := by rw [f_told, if_neg hcq6]
    rw [e9] at hp
    exact e_iret dX12_told_24 rfl (hp _ ⟨⟨_, _, hR, hS⟩, hF⟩)
  · obtain ⟨hn_k, hg_k, hl_k⟩ := wiN hcq6 (by decide) (by decide)
    refine e_aload_n dX12_told_9 rfl ?_
    refine e_get dX12_told_10 fl_X12_19_12 hR.1 rfl ?_
    refine e_iload_n dX12_told_13 rfl ?_
    refine e_top (nI (tn k)) (hn_k) ?_
    refine e_ild (tn k) ((sE s (tn k))) dX12_told_14 (hR.2.2.1 3 (by decide) (by decide) (by decide)) rfl (by show _ < 6; omega) (by decide) (by rw [hS.1.2.1]) ?_
    refine e_goto 24 dX12_told_15 (by decide) ?_
    have e9 : f_told s k = ((sE s (tn k)), s) := by rw [f_told, if_pos hcq6]
    rw [e9] at hp
    exact e_iret dX12_told_24 rfl (hp _ ⟨⟨_, _, hR, hS⟩, hF⟩)
set_option maxRecDepth 20000 in
theorem rp_rate (D : En) {h : AH} {s : SS} (hI : INV s) (hRS : RefS h s) (r : Int32) (x : Int32) : Sp D 1 mX12_rate [.ref (82), .int (r), .int (x)] h 0 0 (some (.int (f_rate s r x).1)) (fun h' => RefS h' (f_rate s r x).2 ∧ FrR h h') := by
  obtain ⟨σ, τ, hR, hS⟩ := hRS
  have hY := hI.1.1
  have hnv := hY.2.1
  have htc10 := hY.2.2.2.1
  obtain ⟨h00, hh00⟩ : ∃ z, z = h := ⟨_, rfl⟩
  have hF : FrR h00 h := by rw [hh00]; exact FrR.rf
  intro post hp
  rw [← hh00] at hp
  show Ev D 1 mX12_rate 0 [some (.ref (82)), some (.int (r)), some (.int (x))] [] h 0 0 post
  refine e_iload_n dX12_rate_0 rfl ?_
  refine e_iconst (nI (0)) dX12_rate_1 (by decide) ?_
  refine e_iconst (nI (5)) dX12_rate_2 (by decide) ?_
  refine c_S3iR (N := mX12_within) dX12_rate_3 ls_X12_76 mo_X12_within  (Nat.le_of_ble_eq_true rfl) (Nat.le_of_ble_eq_true rfl) (by decide) (s_within D ((r)) (nI (0)) (nI (5))) ?_
  refine e_if_eqB 40 dX12_rate_6 (by decide) (fun hcq6 => ?_) (fun hcq6 => ?_)
  · refine e_aload_n dX12_rate_40 rfl ?_
    refine e_ldc dX12_rate_41 w_1294 ?_
    refine c_V1i (nc := 0) (ns := 0) (mc := 0) (ms := 0) (N := mX12_finding) dX12_rate_43 lv_X12_90 mo_X12_finding hR.cn (Nat.le_of_ble_eq_true rfl) (Nat.le_of_ble_eq_true rfl) (by decide) (s_finding D hR 1 (by decide) (((-1000000001))) fE1) (fun h hP => ?_)
    obtain ⟨hR, hF1⟩ := hP
    have hF := hF.trans hF1
    have hS := hS.er 1
    refine e_top (lowE 1) lE1 ?_
    have e9 : f_rate s r x = er 1 (s) := by rw [f_rate, if_neg hcq6]
    rw [e9] at hp
    exact e_iret dX12_rate_46 rfl (hp _ ⟨⟨_, _, hR, hS⟩, hF⟩)
  · obtain ⟨hn_r, hg_r, hl_r⟩ := wiN hcq6 (by decide) (by decide)
    refine e_iload_n dX12_rate_9 rfl ?_
    refine e_aload_n dX12_rate_10 rfl ?_
    refine e_get dX12_rate_11 fl_X12_47_12 hR.1 rfl ?_
    refine e_iload_n dX12_rate_14 rfl ?_
    refine e_top (nI (tn r)) (hn_r) ?_
    refine e_ild (tn r) ((rLo (tn r))) dX12_rate_15 (hR.2.2.1 9 (by decide) (by decide) (by decide)) rfl (by show _ < 6; omega) (by decide) (by rw [hS.2.1.2.1]) ?_
    refine e_aload_n dX12_rate_16 rfl ?_
    refine e_get dX12_rate_17 fl_X12_51_12 hR.1 rfl ?_
    refine e_iload_n dX12_rate_20 rfl ?_
    refine e_top (nI (tn r)) (hn_r) ?_
    refine e_ild (tn r) ((rHi (tn r))) dX12_rate_21 (hR.2.2.1 10 (by decide) (by decide) (by decide)) rfl (by show _ < 6; omega) (by decide) (by rw [hS.2.1.2.2]) ?_
    refine c_S3iR (N := mX12_within) dX12_rate_22 ls_X12_76 mo_X12_within  (Nat.le_of_ble_eq_true rfl) (Nat.le_of_ble_eq_true rfl) (by decide) (s_within D ((x)) ((rLo (tn r))) ((rHi (tn r)))) ?_
    refine e_if_eqB 40 dX12_rate_25 (by decide) (fun hcq25 => ?_) (fun hcq25 => ?_)
    · refine e_aload_n dX12_rate_40 rfl ?_
      refine e_ldc dX12_rate_41 w_1294 ?_
      refine c_V1i (nc := 0) (ns := 0) (mc := 0) (ms := 0) (N := mX12_finding) dX12_rate_43 lv_X12_90 mo_X12_finding hR.cn (Nat.le_of_ble_eq_true rfl) (Nat.le_of_ble_eq_true rfl) (by decide) (s_finding D hR 1 (by decide) (((-1000000001))) fE1) (fun h hP => ?_)
      obtain ⟨hR, hF1⟩ := hP
      have hF := hF.trans hF1
      have hS := hS.er 1
      refine e_top (lowE 1) lE1 ?_
      have e9 : f_rate s r x = er 1 (s) := by rw [f_rate, if_pos hcq6, if_neg hcq25]
      rw [e9] at hp
      exact e_iret dX12_rate_46 rfl (hp _ ⟨⟨_, _, hR, hS⟩, hF⟩)
    · refine e_aload_n dX12_rate_28 rfl ?_
      refine e_bipush (nI (7)) dX12_rate_29 (by decide) ?_
      refine e_iload_n dX12_rate_31 rfl ?_
      refine e_top (nI (tn r)) (hn_r) ?_
      refine e_iaddN dX12_rate_32 ?_
      refine e_iload_n dX12_rate_33 rfl ?_
      refine c_V2i (nc := 0) (ns := 0) (mc := 0) (ms := 0) (N := mX12_put) dX12_rate_34 lv_X12_113 mo_X12_put hR.cn (Nat.le_of_ble_eq_true rfl) (Nat.le_of_ble_eq_true rfl) (by decide) (s_put D hR (7 + (tn r)) (by omega) ((x))) (fun h hP => ?_)
      obtain ⟨hR, hF1⟩ := hP
      have hF := hF.trans hF1
      refine e_goto 46 dX12_rate_37 (by decide) ?_
      have e9 : f_rate s r x = (((sN s) (7 + (tn r))), wN s (upd (sN s) (7 + (tn r)) ((x)))) := by rw [f_rate, if_pos hcq6, if_pos hcq25]
      rw [e9] at hp
      exact e_iret dX12_rate_46 rfl (hp _ ⟨⟨_, _, hR, hS⟩, hF⟩)
set_option maxRecDepth 20000 in
theorem rp_comfort (D : En) {h : AH} {s : SS} (hI : INV s) (hRS : RefS h s) (v : Int32) : Sp D 5 mX12_comfort [.ref (82), .int (v)] h 0 0 (some (.int (f_comfort s v).1)) (fun h' => RefS h' (f_comfort s v).2 ∧ FrR h h') := by
  obtain ⟨σ, τ, hR, hS⟩ := hRS
  have hY := hI.1.1
  have hnv := hY.2.1
  have htc10 := hY.2.2.2.1
  obtain ⟨h00, hh00⟩ : ∃ z, z = h := ⟨_, rfl⟩
  have hF : FrR h00 h := by rw [hh00]; exact FrR.rf
  intro post hp
  rw [← hh00] at hp
  show Ev D 5 mX12_comfort 0 [some (.ref (82)), some (.int (v))] [] h 0 0 post
  refine e_aload_n dX12_comfort_0 rfl ?_
  refine e_iload_n dX12_comfort_1 rfl ?_
  refine e_iconst (nI (1)) dX12_comfort_2 (by decide) ?_
  refine c_V2iR (N := mX12_is) dX12_comfort_3 lv_X12_103 mo_X12_is hR.cn (Nat.le_of_ble_eq_true rfl) (Nat.le_of_ble_eq_true rfl) (by decide) (s_is D hR ((v)) (1) (by omega)) ?_
  refine e_if_neB 16 dX12_comfort_6 (by decide) (fun hcq6 => ?_) (fun hcq6 => ?_)
  · obtain ⟨hn_v, hl_v⟩ := isN hcq6 hY.1 (by omega)
    refine e_aload_n dX12_comfort_16 rfl ?_
    refine c_V0v (nc := 0) (ns := 0) (mc := 0) (ms := 0) (N := mX12_findComforts) dX12_comfort_17 lv_X12_164 mo_X12_findComforts hR.cn (Nat.le_of_ble_eq_true rfl) (Nat.le_of_ble_eq_true rfl) (by decide) (s_comE D hR hY.1 hY.2.1 hY.2.2.1 hY.2.2.2.1 hY.2.2.2.2.1) (fun h hP => ?_)
    obtain ⟨σ, hR, hE1, hC, hF1⟩ := hP
    have hF := hF.trans hF1
    rw [hS.2.1.1] at hC
    have hS := hS.to (fun i hi => hE1 i hi.2.1) rfl rfl
    refine e_aload_n dX12_comfort_20 rfl ?_
    refine e_get dX12_comfort_21 fl_X12_25_12 hR.1 rfl ?_
    refine e_iload_n dX12_comfort_24 rfl ?_
    refine e_top (nI (tn v)) (hn_v) ?_
    refine e_ild (tn v) ((cfN (sN s) (tn v))) dX12_comfort_25 (hR.2.2.1 5 (by decide) (by decide) (by decide)) rfl (by show _ < 8; omega) (by decide) (hC _ hl_v) ?_
    have e9 : f_comfort s v = ((cfN (sN s) (tn v)), s) := by rw [f_comfort, if_pos hcq6]
    rw [e9] at hp
    exact e_iret dX12_comfort_26 rfl (hp _ ⟨⟨_, _, hR, hS⟩, hF⟩)
  · refine e_aload_n dX12_comfort_9 rfl ?_
    refine e_ldc dX12_comfort_10 w_1294 ?_
    refine c_V1i (nc := 0) (ns := 0) (mc := 0) (ms := 0) (N := mX12_finding) dX12_comfort_12 lv_X12_90 mo_X12_finding hR.cn (Nat.le_of_ble_eq_true rfl) (Nat.le_of_ble_eq_true rfl) (by decide) (s_finding D hR 1 (by decide) (((-1000000001))) fE1) (fun h hP => ?_)
    obtain ⟨hR, hF1⟩ := hP
    have hF := hF.trans hF1
    have hS := hS.er 1
    refine e_top (lowE 1) lE1 ?_
    have e9 : f_comfort s v = er 1 (s) := by rw [f_comfort, if_neg hcq6]
    rw [e9] at hp
    exact e_iret dX12_comfort_15 rfl (hp _ ⟨⟨_, _, hR, hS⟩, hF⟩)
