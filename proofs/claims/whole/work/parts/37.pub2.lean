set_option maxRecDepth 20000 in
theorem s_areTwo (D : En) {h : AH} {s : SS} {σ : Nat → Nat → Int32} {τ : Nat → Int32} (hR : RefAt h (sN s) σ τ) (hY : YW (sN s) (nvN (sN s)) (tcN (sN s)) (txN (sN s))) (a b : Int32) : Sp D 2 mX12_areTwo [.ref 82, .int a, .int b] h 0 0 (some (.int (b2 (isT s a ∧ isT s b ∧ ¬ tn a = tn b)))) (fun h' => h' = h) := by
  have hnv := hY.2.1
  have htc10 := hY.2.2.2.1
  intro post hp
  show Ev D 2 mX12_areTwo 0 [some (.ref (82)), some (.int (a)), some (.int (b))] [] h 0 0 post
  refine e_aload_n dX12_areTwo_0 rfl ?_
  refine e_iload_n dX12_areTwo_1 rfl ?_
  refine e_iconst (nI (2)) dX12_areTwo_2 (by decide) ?_
  refine c_V2iR (N := mX12_is) dX12_areTwo_3 lv_X12_103 mo_X12_is hR.cn (Nat.le_of_ble_eq_true rfl) (Nat.le_of_ble_eq_true rfl) (by decide) (s_is D hR ((a)) (2) (by omega)) ?_
  refine e_if_eqB 27 dX12_areTwo_6 (by decide) (fun hcq6 => ?_) (fun hcq6 => ?_)
  · refine e_iconst (nI (0)) dX12_areTwo_27 (by decide) ?_
    refine e_top (b2 (isT s a ∧ isT s b ∧ ¬ tn a = tn b)) (by first | exact (b2_t ⟨hcq6, hcq15, hcq20⟩).symm | exact (b2_f (fun zz => hcq6 zz.1)).symm | exact (b2_f (fun zz => hcq15 zz.2.1)).symm | exact (b2_f (fun zz => zz.2.2 hcq20)).symm) ?_
    exact e_zretB dX12_areTwo_28 rfl (hp _ rfl)
  · obtain ⟨hn_a, hl_a⟩ := isN hcq6 hY.2.2.1 (by omega)
    refine e_aload_n dX12_areTwo_9 rfl ?_
    refine e_iload_n dX12_areTwo_10 rfl ?_
    refine e_iconst (nI (2)) dX12_areTwo_11 (by decide) ?_
    refine c_V2iR (N := mX12_is) dX12_areTwo_12 lv_X12_103 mo_X12_is hR.cn (Nat.le_of_ble_eq_true rfl) (Nat.le_of_ble_eq_true rfl) (by decide) (s_is D hR ((b)) (2) (by omega)) ?_
    refine e_if_eqB 27 dX12_areTwo_15 (by decide) (fun hcq15 => ?_) (fun hcq15 => ?_)
    · refine e_iconst (nI (0)) dX12_areTwo_27 (by decide) ?_
      refine e_top (b2 (isT s a ∧ isT s b ∧ ¬ tn a = tn b)) (by first | exact (b2_t ⟨hcq6, hcq15, hcq20⟩).symm | exact (b2_f (fun zz => hcq6 zz.1)).symm | exact (b2_f (fun zz => hcq15 zz.2.1)).symm | exact (b2_f (fun zz => zz.2.2 hcq20)).symm) ?_
      exact e_zretB dX12_areTwo_28 rfl (hp _ rfl)
    · obtain ⟨hn_b, hl_b⟩ := isN hcq15 hY.2.2.1 (by omega)
      refine e_iload_n dX12_areTwo_18 rfl ?_
      refine e_top (nI (tn a)) (hn_a) ?_
      refine e_iload_n dX12_areTwo_19 rfl ?_
      refine e_top (nI (tn b)) (hn_b) ?_
      refine e_icmp_eqN 27 dX12_areTwo_20 (by decide) (by omega) (by omega) (fun hcq20 => ?_) (fun hcq20 => ?_)
      · refine e_iconst (nI (0)) dX12_areTwo_27 (by decide) ?_
        refine e_top (b2 (isT s a ∧ isT s b ∧ ¬ tn a = tn b)) (by first | exact (b2_t ⟨hcq6, hcq15, hcq20⟩).symm | exact (b2_f (fun zz => hcq6 zz.1)).symm | exact (b2_f (fun zz => hcq15 zz.2.1)).symm | exact (b2_f (fun zz => zz.2.2 hcq20)).symm) ?_
        exact e_zretB dX12_areTwo_28 rfl (hp _ rfl)
      · refine e_iconst (nI (1)) dX12_areTwo_23 (by decide) ?_
        refine e_goto 28 dX12_areTwo_24 (by decide) ?_
        refine e_top (b2 (isT s a ∧ isT s b ∧ ¬ tn a = tn b)) (by first | exact (b2_t ⟨hcq6, hcq15, hcq20⟩).symm | exact (b2_f (fun zz => hcq6 zz.1)).symm | exact (b2_f (fun zz => hcq15 zz.2.1)).symm | exact (b2_f (fun zz => zz.2.2 hcq20)).symm) ?_
        exact e_zretB dX12_areTwo_28 rfl (hp _ rfl)
set_option maxRecDepth 20000 in
theorem rp_site (D : En) {h : AH} {s : SS} (hI : INV s) (hRS : RefS h s) (a : Int32) (b : Int32) : Sp D 5 mX12_site [.ref (82), .int (a), .int (b)] h 0 0 (some (.int (f_site s a b).1)) (fun h' => RefS h' (f_site s a b).2 ∧ FrR h h') := by
  obtain ⟨σ, τ, hR, hS⟩ := hRS
  have hY := hI.1.1
  have hnv := hY.2.1
  have htc10 := hY.2.2.2.1
  obtain ⟨h00, hh00⟩ : ∃ z, z = h := ⟨_, rfl⟩
  have hF : FrR h00 h := by rw [hh00]; exact FrR.rf
  intro post hp
  rw [← hh00] at hp
  show Ev D 5 mX12_site 0 [some (.ref (82)), some (.int (a)), some (.int (b))] [] h 0 0 post
  refine e_aload_n dX12_site_0 rfl ?_
  refine e_iload_n dX12_site_1 rfl ?_
  refine e_iload_n dX12_site_2 rfl ?_
  refine c_V2iR (N := mX12_areTwo) dX12_site_3 lv_X12_293 mo_X12_areTwo hR.cn (Nat.le_of_ble_eq_true rfl) (Nat.le_of_ble_eq_true rfl) (by decide) (s_areTwo D hR hY a b) ?_
  refine e_if_neB 16 dX12_site_6 (by decide) (fun hcq6 => ?_) (fun hcq6 => ?_)
  · obtain ⟨hn_a, hl_a⟩ := isN hcq6.1 hY.2.2.1 (by omega)
    obtain ⟨hn_b, hl_b⟩ := isN hcq6.2.1 hY.2.2.1 (by omega)
    have hk9a := (hY.2.2.2.2.1 _ hl_a).2.1
    have hk9b := (hY.2.2.2.2.1 _ hl_b).2.1
    refine e_aload_n dX12_site_16 rfl ?_
    refine e_iload_n dX12_site_17 rfl ?_
    refine e_top (nI (tn a)) (hn_a) ?_
    refine e_iconst (nI (0)) dX12_site_18 (by decide) ?_
    refine c_V2iR (N := mX12_thing) dX12_site_19 lv_X12_136 mo_X12_thing hR.cn (Nat.le_of_ble_eq_true rfl) (Nat.le_of_ble_eq_true rfl) (by decide) (s_thingK D hR (tn a) (by omega) (hY.2.2.2.2.1 _ (by omega))) ?_
    refine e_aload_n dX12_site_22 rfl ?_
    refine e_iload_n dX12_site_23 rfl ?_
    refine e_top (nI (tn b)) (hn_b) ?_
    refine e_iconst (nI (0)) dX12_site_24 (by decide) ?_
    refine c_V2iR (N := mX12_thing) dX12_site_25 lv_X12_136 mo_X12_thing hR.cn (Nat.le_of_ble_eq_true rfl) (Nat.le_of_ble_eq_true rfl) (by decide) (s_thingK D hR (tn b) (by omega) (hY.2.2.2.2.1 _ (by omega))) ?_
    refine e_icmp_neN 39 dX12_site_28 (by decide) (by omega) (by omega) (fun hcq28 => ?_) (fun hcq28 => ?_)
    · refine e_aload_n dX12_site_39 rfl ?_
      refine e_ldc dX12_site_40 w_1410 ?_
      refine c_V1i (nc := 0) (ns := 0) (mc := 0) (ms := 0) (N := mX12_finding) dX12_site_42 lv_X12_90 mo_X12_finding hR.cn (Nat.le_of_ble_eq_true rfl) (Nat.le_of_ble_eq_true rfl) (by decide) (s_finding D hR 5 (by decide) (((-1000000005))) fE5) (fun h hP => ?_)
      obtain ⟨hR, hF1⟩ := hP
      have hF := hF.trans hF1
      have hS := hS.er 5
      refine e_top (lowE 5) lE5 ?_
      have e9 : f_site s a b = er 5 (s) := by rw [f_site, if_pos hcq6, if_neg hcq28]
      rw [e9] at hp
      exact e_iret dX12_site_45 rfl (hp _ ⟨⟨_, _, hR, hS⟩, hF⟩)
    · refine e_aload_n dX12_site_31 rfl ?_
      refine e_iload_n dX12_site_32 rfl ?_
      refine e_top (nI (tn a)) (hn_a) ?_
      refine c_V1iR (N := mX12_siteOf) dX12_site_33 lv_X12_296 mo_X12_siteOf hR.cn (Nat.le_of_ble_eq_true rfl) (Nat.le_of_ble_eq_true rfl) (by decide) (s_siteOf D hR hY.1 hY.2.1 (tn a) (by omega) (hY.2.2.2.2.1 _ (by omega))) ?_
      refine e_goto 45 dX12_site_36 (by decide) ?_
      have e9 : f_site s a b = (nI (stN (sN s) (nvN (sN s)) (tn a)), s) := by rw [f_site, if_pos hcq6, if_pos hcq28]
      rw [e9] at hp
      exact e_iret dX12_site_45 rfl (hp _ ⟨⟨_, _, hR, hS⟩, hF⟩)
  · refine e_aload_n dX12_site_9 rfl ?_
    refine e_ldc dX12_site_10 w_1294 ?_
    refine c_V1i (nc := 0) (ns := 0) (mc := 0) (ms := 0) (N := mX12_finding) dX12_site_12 lv_X12_90 mo_X12_finding hR.cn (Nat.le_of_ble_eq_true rfl) (Nat.le_of_ble_eq_true rfl) (by decide) (s_finding D hR 1 (by decide) (((-1000000001))) fE1) (fun h hP => ?_)
    obtain ⟨hR, hF1⟩ := hP
    have hF := hF.trans hF1
    have hS := hS.er 1
    refine e_top (lowE 1) lE1 ?_
    have e9 : f_site s a b = er 1 (s) := by rw [f_site, if_neg hcq6]
    rw [e9] at hp
    exact e_iret dX12_site_15 rfl (hp _ ⟨⟨_, _, hR, hS⟩, hF⟩)
set_option maxRecDepth 20000 in
theorem rp_join (D : En) {h : AH} {s : SS} (hI : INV s) (hRS : RefS h s) (a : Int32) (b : Int32) : Sp D 5 mX12_join [.ref (82), .int (a), .int (b)] h 0 0 (some (.int (f_join s a b).1)) (fun h' => RefS h' (f_join s a b).2 ∧ FrR h h') := by
  obtain ⟨σ, τ, hR, hS⟩ := hRS
  have hY := hI.1.1
  have hnv := hY.2.1
  have htc10 := hY.2.2.2.1
  obtain ⟨h00, hh00⟩ : ∃ z, z = h := ⟨_, rfl⟩
  have hF : FrR h00 h := by rw [hh00]; exact FrR.rf
  intro post hp
  rw [← hh00] at hp
  show Ev D 5 mX12_join 0 [some (.ref (82)), some (.int (a)), some (.int (b)), none] [] h 0 0 post
  refine e_aload_n dX12_join_0 rfl ?_
  refine e_iload_n dX12_join_1 rfl ?_
  refine e_iload_n dX12_join_2 rfl ?_
  refine c_V2iR (N := mX12_areTwo) dX12_join_3 lv_X12_293 mo_X12_areTwo hR.cn (Nat.le_of_ble_eq_true rfl) (Nat.le_of_ble_eq_true rfl) (by decide) (s_areTwo D hR hY a b) ?_
  refine e_if_neB 16 dX12_join_6 (by decide) (fun hcq6 => ?_) (fun hcq6 => ?_)
  · obtain ⟨hn_a, hl_a⟩ := isN hcq6.1 hY.2.2.1 (by omega)
    obtain ⟨hn_b, hl_b⟩ := isN hcq6.2.1 hY.2.2.1 (by omega)
    have hk9a := (hY.2.2.2.2.1 _ hl_a).2.1
    have hk9b := (hY.2.2.2.2.1 _ hl_b).2.1
    refine e_aload_n dX12_join_16 rfl ?_
    refine e_iload_n dX12_join_17 rfl ?_
    refine e_top (nI (tn a)) (hn_a) ?_
    refine e_iconst (nI (0)) dX12_join_18 (by decide) ?_
    refine c_V2iR (N := mX12_thing) dX12_join_19 lv_X12_136 mo_X12_thing hR.cn (Nat.le_of_ble_eq_true rfl) (Nat.le_of_ble_eq_true rfl) (by decide) (s_thingK D hR (tn a) (by omega) (hY.2.2.2.2.1 _ (by omega))) ?_
    refine e_aload_n dX12_join_22 rfl ?_
    refine e_iload_n dX12_join_23 rfl ?_
    refine e_top (nI (tn b)) (hn_b) ?_
    refine e_iconst (nI (0)) dX12_join_24 (by decide) ?_
    refine c_V2iR (N := mX12_thing) dX12_join_25 lv_X12_136 mo_X12_thing hR.cn (Nat.le_of_ble_eq_true rfl) (Nat.le_of_ble_eq_true rfl) (by decide) (s_thingK D hR (tn b) (by omega) (hY.2.2.2.2.1 _ (by omega))) ?_
    refine e_icmp_eqN 38 dX12_join_28 (by decide) (by omega) (by omega) (fun hcq28 => ?_) (fun hcq28 => ?_)
    · refine e_aload_n dX12_join_38 rfl ?_
      refine e_get dX12_join_39 fl_X12_9_12 hR.1 rfl ?_
      refine e_iconst (nI (2)) dX12_join_42 (by decide) ?_
      refine e_ild (2) (nI (tcN (sN s))) dX12_join_43 hR.2.1 rfl (by omega) (by decide) hY.2.2.1 ?_
      refine e_bipush (nI (10)) dX12_join_44 (by decide) ?_
      refine e_icmp_neN 56 dX12_join_46 (by decide) (by omega) (by omega) (fun hcq46 => ?_) (fun hcq46 => ?_)
      · refine e_aload_n dX12_join_56 rfl ?_
        refine e_iload_n dX12_join_57 rfl ?_
        refine e_top (nI (tn a)) (hn_a) ?_
        refine e_iconst (nI (0)) dX12_join_58 (by decide) ?_
        refine c_V2v (nc := 0) (ns := 0) (mc := 0) (ms := 0) (N := mX12_opens) dX12_join_59 lv_X12_246 mo_X12_opens hR.cn (Nat.le_of_ble_eq_true rfl) (Nat.le_of_ble_eq_true rfl) (by decide) (s_opens D hR (tn a) (by omega) (nI (0))) (fun h hP => ?_)
        obtain ⟨hR, hF1⟩ := hP
        have hF := hF.trans hF1
        rw [if_pos (by decide)] at hR
        have hY := YW_upd (x := nI 0) hY (k := 112 + 7 * (tn a) + 5) (by unfold FI; omega)
        refine e_aload_n dX12_join_62 rfl ?_
        refine e_iload_n dX12_join_63 rfl ?_
        refine e_top (nI (tn b)) (hn_b) ?_
        refine e_iconst (nI (0)) dX12_join_64 (by decide) ?_
        refine c_V2v (nc := 0) (ns := 0) (mc := 0) (ms := 0) (N := mX12_opens) dX12_join_65 lv_X12_246 mo_X12_opens hR.cn (Nat.le_of_ble_eq_true rfl) (Nat.le_of_ble_eq_true rfl) (by decide) (s_opens D hR (tn b) (by omega) (nI (0))) (fun h hP => ?_)
        obtain ⟨hR, hF1⟩ := hP
        have hF := hF.trans hF1
        rw [if_pos (by decide)] at hR
        have hY := YW_upd (x := nI 0) hY (k := 112 + 7 * (tn b) + 5) (by unfold FI; omega)
        refine e_sipush (nI (999)) dX12_join_68 (by decide) ?_
        refine e_aload_n dX12_join_71 rfl ?_
        refine e_iload_n dX12_join_72 rfl ?_
        refine e_top (nI (tn a)) (hn_a) ?_
        refine e_iconst (nI (2)) dX12_join_73 (by decide) ?_
        refine c_V2iR (N := mX12_thing) dX12_join_74 lv_X12_136 mo_X12_thing hR.cn (Nat.le_of_ble_eq_true rfl) (Nat.le_of_ble_eq_true rfl) (by decide) (s_thing D hR (tn a) (2) (by omega) (by omega)) ?_
        refine e_aload_n dX12_join_77 rfl ?_
        refine e_iload_n dX12_join_78 rfl ?_
        refine e_top (nI (tn b)) (hn_b) ?_
        refine e_iconst (nI (2)) dX12_join_79 (by decide) ?_
        refine c_V2iR (N := mX12_thing) dX12_join_80 lv_X12_136 mo_X12_thing hR.cn (Nat.le_of_ble_eq_true rfl) (Nat.le_of_ble_eq_true rfl) (by decide) (s_thing D hR (tn b) (2) (by omega) (by omega)) ?_
        refine e_iadd dX12_join_83 ?_
        refine e_mmin dX12_join_84 mw_X12_231 (by decide) (Nat.le_of_ble_eq_true rfl) ?_
        refine e_istore_n dX12_join_87 (by decide) ?_
        refine e_aload_n dX12_join_88 rfl ?_
        refine e_aload_n dX12_join_89 rfl ?_
        refine e_iload_n dX12_join_90 rfl ?_
        refine e_top (nI (tn a)) (hn_a) ?_
        refine e_iconst (nI (0)) dX12_join_91 (by decide) ?_
        refine c_V2iR (N := mX12_thing) dX12_join_92 lv_X12_136 mo_X12_thing hR.cn (Nat.le_of_ble_eq_true rfl) (Nat.le_of_ble_eq_true rfl) (by decide) (s_thingK D hR (tn a) (by omega) (hY.2.2.2.2.1 _ (by omega))) ?_
        refine e_aload_n dX12_join_95 rfl ?_
        refine e_iload_n dX12_join_96 rfl ?_
        refine e_top (nI (tn a)) (hn_a) ?_
        refine c_V1iR (N := mX12_siteOf) dX12_join_97 lv_X12_296 mo_X12_siteOf hR.cn (Nat.le_of_ble_eq_true rfl) (Nat.le_of_ble_eq_true rfl) (by decide) (s_siteOf D hR hY.1 hY.2.1 (tn a) (by omega) (hY.2.2.2.2.1 _ (by omega))) ?_
        refine e_iload_n dX12_join_100 rfl ?_
        refine e_aload_n dX12_join_101 rfl ?_
        refine e_iload_n dX12_join_102 rfl ?_
        refine e_top (nI (tn a)) (hn_a) ?_
        refine e_iconst (nI (3)) dX12_join_103 (by decide) ?_
        refine c_V2iR (N := mX12_thing) dX12_join_104 lv_X12_136 mo_X12_thing hR.cn (Nat.le_of_ble_eq_true rfl) (Nat.le_of_ble_eq_true rfl) (by decide) (s_thing D hR (tn a) (3) (by omega) (by omega)) ?_
        refine e_aload_n dX12_join_107 rfl ?_
        refine e_iload_n dX12_join_108 rfl ?_
        refine e_top (nI (tn a)) (hn_a) ?_
        refine e_iconst (nI (4)) dX12_join_109 (by decide) ?_
        refine c_V2iR (N := mX12_thing) dX12_join_110 lv_X12_136 mo_X12_thing hR.cn (Nat.le_of_ble_eq_true rfl) (Nat.le_of_ble_eq_true rfl) (by decide) (s_thing D hR (tn a) (4) (by omega) (by omega)) ?_
        refine c_V5i (nc := 0) (ns := 0) (mc := 0) (ms := 0) (N := mX12_stands) dX12_join_113 lv_X12_139 mo_X12_stands hR.cn (Nat.le_of_ble_eq_true rfl) (Nat.le_of_ble_eq_true rfl) (by decide) (s_stands D hR (tcN (sN s)) (by omega) hY.2.2.1 (nI (kdN (upd (upd (sN s) (112 + 7 * (tn a) + 5) (nI 0)) (112 + 7 * (tn b) + 5) (nI 0)) (tn a))) (nI (stN (upd (upd (sN s) (112 + 7 * (tn a) + 5) (nI 0)) (112 + 7 * (tn b) + 5) (nI 0)) (nvN (sN s)) (tn a))) ((if (((upd (upd (sN s) (112 + 7 * (tn a) + 5) (nI 0)) (112 + 7 * (tn b) + 5) (nI 0)) (112 + 7 * (tn a) + 2)) + ((upd (upd (sN s) (112 + 7 * (tn a) + 5) (nI 0)) (112 + 7 * (tn b) + 5) (nI 0)) (112 + 7 * (tn b) + 2))) < nI (999) then (((upd (upd (sN s) (112 + 7 * (tn a) + 5) (nI 0)) (112 + 7 * (tn b) + 5) (nI 0)) (112 + 7 * (tn a) + 2)) + ((upd (upd (sN s) (112 + 7 * (tn a) + 5) (nI 0)) (112 + 7 * (tn b) + 5) (nI 0)) (112 + 7 * (tn b) + 2))) else nI (999))) (((upd (upd (sN s) (112 + 7 * (tn a) + 5) (nI 0)) (112 + 7 * (tn b) + 5) (nI 0)) (112 + 7 * (tn a) + 3))) (((upd (upd (sN s) (112 + 7 * (tn a) + 5) (nI 0)) (112 + 7 * (tn b) + 5) (nI 0)) (112 + 7 * (tn a) + 4)))) (fun h hP => ?_)
        obtain ⟨hR, hF1⟩ := hP
        have hF := hF.trans hF1
        have e9 : f_join s a b = (nI (tcN (sN s)), wN s (standR (upd (upd (sN s) (112 + 7 * (tn a) + 5) (nI 0)) (112 + 7 * (tn b) + 5) (nI 0)) (tcN (sN s)) (nI (kdN (upd (upd (sN s) (112 + 7 * (tn a) + 5) (nI 0)) (112 + 7 * (tn b) + 5) (nI 0)) (tn a))) (nI (stN (upd (upd (sN s) (112 + 7 * (tn a) + 5) (nI 0)) (112 + 7 * (tn b) + 5) (nI 0)) (nvN (sN s)) (tn a))) ((if (((upd (upd (sN s) (112 + 7 * (tn a) + 5) (nI 0)) (112 + 7 * (tn b) + 5) (nI 0)) (112 + 7 * (tn a) + 2)) + ((upd (upd (sN s) (112 + 7 * (tn a) + 5) (nI 0)) (112 + 7 * (tn b) + 5) (nI 0)) (112 + 7 * (tn b) + 2))) < nI (999) then (((upd (upd (sN s) (112 + 7 * (tn a) + 5) (nI 0)) (112 + 7 * (tn b) + 5) (nI 0)) (112 + 7 * (tn a) + 2)) + ((upd (upd (sN s) (112 + 7 * (tn a) + 5) (nI 0)) (112 + 7 * (tn b) + 5) (nI 0)) (112 + 7 * (tn b) + 2))) else nI (999))) (((upd (upd (sN s) (112 + 7 * (tn a) + 5) (nI 0)) (112 + 7 * (tn b) + 5) (nI 0)) (112 + 7 * (tn a) + 3))) (((upd (upd (sN s) (112 + 7 * (tn a) + 5) (nI 0)) (112 + 7 * (tn b) + 5) (nI 0)) (112 + 7 * (tn a) + 4))))) := by rw [f_join, if_pos hcq6, if_pos hcq28, if_neg hcq46]; rfl
        rw [e9] at hp
        exact e_iret dX12_join_116 rfl (hp _ ⟨⟨_, _, hR, hS⟩, hF⟩)
      · refine e_aload_n dX12_join_49 rfl ?_
        refine e_ldc dX12_join_50 w_1300 ?_
        refine c_V1i (nc := 0) (ns := 0) (mc := 0) (ms := 0) (N := mX12_finding) dX12_join_52 lv_X12_90 mo_X12_finding hR.cn (Nat.le_of_ble_eq_true rfl) (Nat.le_of_ble_eq_true rfl) (by decide) (s_finding D hR 4 (by decide) (((-1000000004))) fE4) (fun h hP => ?_)
        obtain ⟨hR, hF1⟩ := hP
        have hF := hF.trans hF1
        have hS := hS.er 4
        refine e_top (lowE 4) lE4 ?_
        have e9 : f_join s a b = er 4 (s) := by rw [f_join, if_pos hcq6, if_pos hcq28, if_pos hcq46]
        rw [e9] at hp
        exact e_iret dX12_join_55 rfl (hp _ ⟨⟨_, _, hR, hS⟩, hF⟩)
    · refine e_aload_n dX12_join_31 rfl ?_
      refine e_ldc dX12_join_32 w_1410 ?_
      refine c_V1i (nc := 0) (ns := 0) (mc := 0) (ms := 0) (N := mX12_finding) dX12_join_34 lv_X12_90 mo_X12_finding hR.cn (Nat.le_of_ble_eq_true rfl) (Nat.le_of_ble_eq_true rfl) (by decide) (s_finding D hR 5 (by decide) (((-1000000005))) fE5) (fun h hP => ?_)
      obtain ⟨hR, hF1⟩ := hP
      have hF := hF.trans hF1
      have hS := hS.er 5
      refine e_top (lowE 5) lE5 ?_
      have e9 : f_join s a b = er 5 (s) := by rw [f_join, if_pos hcq6, if_neg hcq28]
      rw [e9] at hp
      exact e_iret dX12_join_37 rfl (hp _ ⟨⟨_, _, hR, hS⟩, hF⟩)
  · refine e_aload_n dX12_join_9 rfl ?_
    refine e_ldc dX12_join_10 w_1294 ?_
    refine c_V1i (nc := 0) (ns := 0) (mc := 0) (ms := 0) (N := mX12_finding) dX12_join_12 lv_X12_90 mo_X12_finding hR.cn (Nat.le_of_ble_eq_true rfl) (Nat.le_of_ble_eq_true rfl) (by decide) (s_finding D hR 1 (by decide) (((-1000000001))) fE1) (fun h hP => ?_)
    obtain ⟨hR, hF1⟩ := hP
    have hF := hF.trans hF1
    have hS := hS.er 1
    refine e_top (lowE 1) lE1 ?_
    have e9 : f_join s a b = er 1 (s) := by rw [f_join, if_neg hcq6]
    rw [e9] at hp
    exact e_iret dX12_join_15 rfl (hp _ ⟨⟨_, _, hR, hS⟩, hF⟩)
set_option maxRecDepth 20000 in
theorem rp_ofThing (D : En) {h : AH} {s : SS} (hI : INV s) (hRS : RefS h s) (t : Int32) (w : Int32) : Sp D 5 mX12_ofThing [.ref (82), .int (t), .int (w)] h 0 0 (some (.int (f_ofThing s t w).1)) (fun h' => RefS h' (f_ofThing s t w).2 ∧ FrR h h') := by
  obtain ⟨σ, τ, hR, hS⟩ := hRS
  have hY := hI.1.1
  have hnv := hY.2.1
  have htc10 := hY.2.2.2.1
  obtain ⟨h00, hh00⟩ : ∃ z, z = h := ⟨_, rfl⟩
  have hF : FrR h00 h := by rw [hh00]; exact FrR.rf
  intro post hp
  rw [← hh00] at hp
  show Ev D 5 mX12_ofThing 0 [some (.ref (82)), some (.int (t)), some (.int (w))] [] h 0 0 post
  refine e_aload_n dX12_ofThing_0 rfl ?_
  refine e_iload_n dX12_ofThing_1 rfl ?_
  refine e_iconst (nI (2)) dX12_ofThing_2 (by decide) ?_
  refine c_V2iR (N := mX12_is) dX12_ofThing_3 lv_X12_103 mo_X12_is hR.cn (Nat.le_of_ble_eq_true rfl) (Nat.le_of_ble_eq_true rfl) (by decide) (s_is D hR ((t)) (2) (by omega)) ?_
  refine e_if_eqB 19 dX12_ofThing_6 (by decide) (fun hcq6 => ?_) (fun hcq6 => ?_)
  · refine e_aload_n dX12_ofThing_19 rfl ?_
    refine e_ldc dX12_ofThing_20 w_1294 ?_
    refine c_V1i (nc := 0) (ns := 0) (mc := 0) (ms := 0) (N := mX12_finding) dX12_ofThing_22 lv_X12_90 mo_X12_finding hR.cn (Nat.le_of_ble_eq_true rfl) (Nat.le_of_ble_eq_true rfl) (by decide) (s_finding D hR 1 (by decide) (((-1000000001))) fE1) (fun h hP => ?_)
    obtain ⟨hR, hF1⟩ := hP
    have hF := hF.trans hF1
    have hS := hS.er 1
    refine e_top (lowE 1) lE1 ?_
    have e9 : f_ofThing s t w = er 1 (s) := by rw [f_ofThing, if_neg hcq6]
    rw [e9] at hp
    exact e_iret dX12_ofThing_25 rfl (hp _ ⟨⟨_, _, hR, hS⟩, hF⟩)
  · obtain ⟨hn_t, hl_t⟩ := isN hcq6 hY.2.2.1 (by omega)
    refine e_iload_n dX12_ofThing_9 rfl ?_
    refine e_iconst (nI (0)) dX12_ofThing_10 (by decide) ?_
    refine e_bipush (nI (9)) dX12_ofThing_11 (by decide) ?_
    refine c_S3iR (N := mX12_within) dX12_ofThing_13 ls_X12_76 mo_X12_within  (Nat.le_of_ble_eq_true rfl) (Nat.le_of_ble_eq_true rfl) (by decide) (s_within D ((w)) (nI (0)) (nI (9))) ?_
    refine e_if_neB 26 dX12_ofThing_16 (by decide) (fun hcq16 => ?_) (fun hcq16 => ?_)
    · obtain ⟨hn_w, hg_w, hl_w⟩ := wiN hcq16 (by decide) (by decide)
      refine e_iload_n dX12_ofThing_26 rfl ?_
      refine e_top (nI (tn w)) (hn_w) ?_
      have hsp : tn w = 7 ∨ tn w = 8 ∨ tn w = 9 ∨ tn w < 7 := by omega
      rcases hsp with hsp | hsp | hsp | hsp
      · refine e_top (nI 7) (by rw [hsp]) ?_
        refine e_tableIn (off := 25) 52 dX12_ofThing_27 (by decide) (by decide) (by decide) (by decide) ?_
        refine e_aload_n dX12_ofThing_52 rfl ?_
        refine e_iload_n dX12_ofThing_53 rfl ?_
        refine e_top (nI (tn t)) (hn_t) ?_
        refine c_V1iR (N := mX12_usersOf_) dX12_ofThing_54 lv_X12_149 mo_X12_usersOf_ hR.cn (Nat.le_of_ble_eq_true rfl) (Nat.le_of_ble_eq_true rfl) (by decide) (s_usersOf_ D hR hY.1 hY.2.1 (tn t) (by omega) (hY.2.2.2.2.1 _ (by omega))) ?_
        have e9 : f_ofThing s t w = ((usN (sN s) (tn t)), s) := by rw [f_ofThing, if_pos hcq6, if_pos hcq16, if_pos hsp]
        rw [e9] at hp
        exact e_iret dX12_ofThing_57 rfl (hp _ ⟨⟨_, _, hR, hS⟩, hF⟩)
      · refine e_top (nI 8) (by rw [hsp]) ?_
        refine e_tableIn (off := 31) 58 dX12_ofThing_27 (by decide) (by decide) (by decide) (by decide) ?_
        have hk9 := (hY.2.2.2.2.1 _ hl_t).2.1
        refine e_aload_n dX12_ofThing_58 rfl ?_
        refine e_get dX12_ofThing_59 fl_X12_22_12 hR.1 rfl ?_
        refine e_aload_n dX12_ofThing_62 rfl ?_
        refine e_iload_n dX12_ofThing_63 rfl ?_
        refine e_top (nI (tn t)) (hn_t) ?_
        refine e_iconst (nI (0)) dX12_ofThing_64 (by decide) ?_
        refine c_V2iR (N := mX12_thing) dX12_ofThing_65 lv_X12_136 mo_X12_thing hR.cn (Nat.le_of_ble_eq_true rfl) (Nat.le_of_ble_eq_true rfl) (by decide) (s_thingK D hR (tn t) (by omega) (hY.2.2.2.2.1 _ (by omega))) ?_
        refine e_ild (kdN (sN s) (tn t)) ((G0 (kdN (sN s) (tn t)))) dX12_ofThing_68 (hR.2.2.1 4 (by decide) (by decide) (by decide)) rfl (by show _ < 7; omega) (by decide) (by rw [hS.2.1.1]) ?_
        have e9 : f_ofThing s t w = ((G0 (kdN (sN s) (tn t))), s) := by rw [f_ofThing, if_pos hcq6, if_pos hcq16, if_neg (by omega), if_pos hsp]
        rw [e9] at hp
        exact e_iret dX12_ofThing_69 rfl (hp _ ⟨⟨_, _, hR, hS⟩, hF⟩)
      · refine e_top (nI 9) (by rw [hsp]) ?_
        refine e_tableIn (off := 43) 70 dX12_ofThing_27 (by decide) (by decide) (by decide) (by decide) ?_
        refine e_aload_n dX12_ofThing_70 rfl ?_
        refine e_iload_n dX12_ofThing_71 rfl ?_
        refine e_top (nI (tn t)) (hn_t) ?_
        refine c_V1iR (N := mX12_servedBy) dX12_ofThing_72 lv_X12_151 mo_X12_servedBy hR.cn (Nat.le_of_ble_eq_true rfl) (Nat.le_of_ble_eq_true rfl) (by decide) (s_servedBy D hR hY.1 hY.2.1 (tn t) (by omega) (hY.2.2.2.2.1 _ (by omega))) ?_
        have e9 : f_ofThing s t w = ((servedR (sN s) (nvN (sN s)) (tn t)), s) := by rw [f_ofThing, if_pos hcq6, if_pos hcq16, if_neg (by omega), if_neg (by omega), if_pos hsp]
        rw [e9] at hp
        exact e_iret dX12_ofThing_75 rfl (hp _ ⟨⟨_, _, hR, hS⟩, hF⟩)
      · refine e_tableOut 76 dX12_ofThing_27 (Or.inl (by rw [nI_toInt (by omega)]; omega)) (by decide) ?_
        refine e_aload_n dX12_ofThing_76 rfl ?_
        refine e_iload_n dX12_ofThing_77 rfl ?_
        refine e_top (nI (tn t)) (hn_t) ?_
        refine e_iload_n dX12_ofThing_78 rfl ?_
        refine e_top (nI (tn w)) (hn_w) ?_
        refine c_V2iR (N := mX12_thing) dX12_ofThing_79 lv_X12_136 mo_X12_thing hR.cn (Nat.le_of_ble_eq_true rfl) (Nat.le_of_ble_eq_true rfl) (by decide) (s_thing D hR (tn t) (tn w) (by omega) (by omega)) ?_
        have e9 : f_ofThing s t w = (((sN s) (112 + 7 * (tn t) + (tn w))), s) := by rw [f_ofThing, if_pos hcq6, if_pos hcq16, if_neg (by omega), if_neg (by omega), if_neg (by omega)]
        rw [e9] at hp
        exact e_iret dX12_ofThing_82 rfl (hp _ ⟨⟨_, _, hR, hS⟩, hF⟩)
    · refine e_aload_n dX12_ofThing_19 rfl ?_
      refine e_ldc dX12_ofThing_20 w_1294 ?_
      refine c_V1i (nc := 0) (ns := 0) (mc := 0) (ms := 0) (N := mX12_finding) dX12_ofThing_22 lv_X12_90 mo_X12_finding hR.cn (Nat.le_of_ble_eq_true rfl) (Nat.le_of_ble_eq_true rfl) (by decide) (s_finding D hR 1 (by decide) (((-1000000001))) fE1) (fun h hP => ?_)
      obtain ⟨hR, hF1⟩ := hP
      have hF := hF.trans hF1
      have hS := hS.er 1
      refine e_top (lowE 1) lE1 ?_
      have e9 : f_ofThing s t w = er 1 (s) := by rw [f_ofThing, if_pos hcq6, if_neg hcq16]
      rw [e9] at hp
      exact e_iret dX12_ofThing_25 rfl (hp _ ⟨⟨_, _, hR, hS⟩, hF⟩)
set_option maxRecDepth 20000 in
theorem s_abv0 (D : En) {h : AH} : Sp D 0 mX12_above [.int (nI 0)] h 0 0 (some (.int (-1))) (fun h' => h' = h) := by
  intro post hp
  show Ev D 0 mX12_above 0 [some (.int (nI (0)))] [] h 0 0 post
  refine e_iload_n dX12_above_0 rfl ?_
  refine e_if_neN 8 dX12_above_1 (by decide) (by omega) (fun hcq1 => absurd hcq1 (by decide)) (fun hcq1 => ?_)
  refine e_iconst (((-1))) dX12_above_4 (by decide) ?_
  refine e_goto 37 dX12_above_5 (by decide) ?_
  exact e_iret dX12_above_37 rfl (hp _ rfl)
set_option maxRecDepth 20000 in
theorem rp_as (D : En) {h : AH} {s : SS} (hI : INV s) (hRS : RefS h s) (t : Int32) (k : Int32) : Sp D 3 mX12_as [.ref (82), .int (t), .int (k)] h 0 0 (some (.int (f_as s t k).1)) (fun h' => RefS h' (f_as s t k).2 ∧ FrR h h') := by
  obtain ⟨σ, τ, hR, hS⟩ := hRS
  have hY := hI.1.1
  have hnv := hY.2.1
  have htc10 := hY.2.2.2.1
  obtain ⟨h00, hh00⟩ : ∃ z, z = h := ⟨_, rfl⟩
  have hF : FrR h00 h := by rw [hh00]; exact FrR.rf
  intro post hp
  rw [← hh00] at hp
  show Ev D 3 mX12_as 0 [some (.ref (82)), some (.int (t)), some (.int (k)), none] [] h 0 0 post
  refine e_aload_n dX12_as_0 rfl ?_
  refine e_iload_n dX12_as_1 rfl ?_
  refine e_iconst (nI (2)) dX12_as_2 (by decide) ?_
  refine c_V2iR (N := mX12_is) dX12_as_3 lv_X12_103 mo_X12_is hR.cn (Nat.le_of_ble_eq_true rfl) (Nat.le_of_ble_eq_true rfl) (by decide) (s_is D hR ((t)) (2) (by omega)) ?_
  refine e_if_eqB 19 dX12_as_6 (by decide) (fun hcq6 => ?_) (fun hcq6 => ?_)
  · refine e_aload_n dX12_as_19 rfl ?_
    refine e_ldc dX12_as_20 w_1294 ?_
    refine c_V1i (nc := 0) (ns := 0) (mc := 0) (ms := 0) (N := mX12_finding) dX12_as_22 lv_X12_90 mo_X12_finding hR.cn (Nat.le_of_ble_eq_true rfl) (Nat.le_of_ble_eq_true rfl) (by decide) (s_finding D hR 1 (by decide) (((-1000000001))) fE1) (fun h hP => ?_)
    obtain ⟨hR, hF1⟩ := hP
    have hF := hF.trans hF1
    have hS := hS.er 1
    refine e_top (lowE 1) lE1 ?_
    have e9 : f_as s t k = er 1 (s) := by rw [f_as, if_neg hcq6]
    rw [e9] at hp
    exact e_iret dX12_as_25 rfl (hp _ ⟨⟨_, _, hR, hS⟩, hF⟩)
  · obtain ⟨hn_t, hl_t⟩ := isN hcq6 hY.2.2.1 (by omega)
    refine e_iload_n dX12_as_9 rfl ?_
    refine e_iconst (nI (0)) dX12_as_10 (by decide) ?_
    refine e_bipush (nI (6)) dX12_as_11 (by decide) ?_
    refine c_S3iR (N := mX12_within) dX12_as_13 ls_X12_76 mo_X12_within  (Nat.le_of_ble_eq_true rfl) (Nat.le_of_ble_eq_true rfl) (by decide) (s_within D ((k)) (nI (0)) (nI (6))) ?_
    refine e_if_neB 26 dX12_as_16 (by decide) (fun hcq16 => ?_) (fun hcq16 => ?_)
    · obtain ⟨hn_k, hg_k, hl_k⟩ := wiN hcq16 (by decide) (by decide)
      refine e_aload_n dX12_as_26 rfl ?_
      refine e_iload_n dX12_as_27 rfl ?_
      refine e_top (nI (tn t)) (hn_t) ?_
      refine e_iconst (nI (0)) dX12_as_28 (by decide) ?_
      refine c_V2iR (N := mX12_thing) dX12_as_29 lv_X12_136 mo_X12_thing hR.cn (Nat.le_of_ble_eq_true rfl) (Nat.le_of_ble_eq_true rfl) (by decide) (s_thingK D hR (tn t) (by omega) (hY.2.2.2.2.1 _ (by omega))) ?_
      have hk9 := (hY.2.2.2.2.1 _ hl_t).2.1
      have hkd : kdN (sN s) (tn t) = 0 ∨ kdN (sN s) (tn t) = 1 ∨ kdN (sN s) (tn t) = 2 ∨ kdN (sN s) (tn t) = 3 ∨ kdN (sN s) (tn t) = 4 ∨ kdN (sN s) (tn t) = 5 ∨ kdN (sN s) (tn t) = 6 := by omega
      rcases hkd with hkd | hkd | hkd | hkd | hkd | hkd | hkd
      · refine e_top (nI 0) (by rw [hkd]) ?_
        refine e_istore_n dX12_as_32 (by decide) ?_
        refine e_iload_n dX12_as_33 rfl ?_
        refine e_if_ltN (tgt := 50) dX12_as_34 (by decide) (by omega) ?_
        refine e_iload_n dX12_as_37 rfl ?_
        refine e_iload_n dX12_as_38 rfl ?_
        refine e_top (nI (tn k)) (hn_k) ?_
        refine e_icmp_eqN 50 dX12_as_39 (by decide) (by omega) (by omega) (fun hcq39 => ?_) (fun hcq39 => ?_)
        · refine e_iload_n dX12_as_50 rfl ?_
          refine e_if_geN 63 dX12_as_51 (by decide) (by omega) ?_
          refine e_aload_n dX12_as_63 rfl ?_
          refine e_iload_n dX12_as_64 rfl ?_
          refine e_top (nI (tn t)) (hn_t) ?_
          refine e_iconst (nI (3)) dX12_as_65 (by decide) ?_
          refine c_V2iR (N := mX12_thing) dX12_as_66 lv_X12_136 mo_X12_thing hR.cn (Nat.le_of_ble_eq_true rfl) (Nat.le_of_ble_eq_true rfl) (by decide) (s_thing D hR (tn t) (3) (by omega) (by omega)) ?_
          have e9 : f_as s t k = (((sN s) (112 + 7 * (tn t) + 3)), s) := by rw [f_as, if_pos hcq6, if_pos hcq16, if_pos (by rw [hkd]; simp [upK]; omega)]
          rw [e9] at hp
          exact e_iret dX12_as_69 rfl (hp _ ⟨⟨_, _, hR, hS⟩, hF⟩)
        · refine e_iload_n dX12_as_42 rfl ?_
          refine c_S1iR (N := mX12_above) dX12_as_43 ls_X12_154 mo_X12_above  (Nat.le_of_ble_eq_true rfl) (Nat.le_of_ble_eq_true rfl) (by decide) (s_abv0 D) ?_
          refine e_istore_n dX12_as_46 (by decide) ?_
          refine e_goto 33 dX12_as_47 (by decide) ?_
          refine e_iload_n dX12_as_33 rfl ?_
          refine e_if_lt 50 dX12_as_34 (by decide) (fun hcq34 => ?_) (fun hcq34 => absurd (show (-1 : Int32) < 0 by decide) hcq34)
          refine e_iload_n dX12_as_50 rfl ?_
          refine e_if_ge 63 dX12_as_51 (by decide) (fun hcq51 => absurd hcq51 (by decide)) (fun hcq51 => ?_)
          refine e_aload_n dX12_as_54 rfl ?_
          refine e_ldc dX12_as_55 w_1410 ?_
          refine c_V1i (nc := 0) (ns := 0) (mc := 0) (ms := 0) (N := mX12_finding) dX12_as_57 lv_X12_90 mo_X12_finding hR.cn (Nat.le_of_ble_eq_true rfl) (Nat.le_of_ble_eq_true rfl) (by decide) (s_finding D hR 5 (by decide) (((-1000000005))) fE5) (fun h hP => ?_)
          obtain ⟨hR, hF1⟩ := hP
          have hF := hF.trans hF1
          have hS := hS.er 5
          refine e_top (lowE 5) lE5 ?_
          refine e_goto 69 dX12_as_60 (by decide) ?_
          have e9 : f_as s t k = er 5 (s) := by rw [f_as, if_pos hcq6, if_pos hcq16, if_neg (by rw [hkd]; simp [upK]; omega)]
          rw [e9] at hp
          exact e_iret dX12_as_69 rfl (hp _ ⟨⟨_, _, hR, hS⟩, hF⟩)
      · refine e_top (nI 1) (by rw [hkd]) ?_
        refine e_istore_n dX12_as_32 (by decide) ?_
        refine e_iload_n dX12_as_33 rfl ?_
        refine e_if_ltN (tgt := 50) dX12_as_34 (by decide) (by omega) ?_
        refine e_iload_n dX12_as_37 rfl ?_
        refine e_iload_n dX12_as_38 rfl ?_
        refine e_top (nI (tn k)) (hn_k) ?_
        refine e_icmp_eqN 50 dX12_as_39 (by decide) (by omega) (by omega) (fun hcq39 => ?_) (fun hcq39 => ?_)
        · refine e_iload_n dX12_as_50 rfl ?_
          refine e_if_geN 63 dX12_as_51 (by decide) (by omega) ?_
          refine e_aload_n dX12_as_63 rfl ?_
          refine e_iload_n dX12_as_64 rfl ?_
          refine e_top (nI (tn t)) (hn_t) ?_
          refine e_iconst (nI (3)) dX12_as_65 (by decide) ?_
          refine c_V2iR (N := mX12_thing) dX12_as_66 lv_X12_136 mo_X12_thing hR.cn (Nat.le_of_ble_eq_true rfl) (Nat.le_of_ble_eq_true rfl) (by decide) (s_thing D hR (tn t) (3) (by omega) (by omega)) ?_
          have e9 : f_as s t k = (((sN s) (112 + 7 * (tn t) + 3)), s) := by rw [f_as, if_pos hcq6, if_pos hcq16, if_pos (by rw [hkd]; simp [upK]; omega)]
          rw [e9] at hp
          exact e_iret dX12_as_69 rfl (hp _ ⟨⟨_, _, hR, hS⟩, hF⟩)
        · refine e_iload_n dX12_as_42 rfl ?_
          refine c_S1iR (N := mX12_above) dX12_as_43 ls_X12_154 mo_X12_above  (Nat.le_of_ble_eq_true rfl) (Nat.le_of_ble_eq_true rfl) (by decide) (s_abv1 D) ?_
          refine e_istore_n dX12_as_46 (by decide) ?_
          refine e_goto 33 dX12_as_47 (by decide) ?_
          refine e_iload_n dX12_as_33 rfl ?_
          refine e_if_ltN (tgt := 50) dX12_as_34 (by decide) (by omega) ?_
          refine e_iload_n dX12_as_37 rfl ?_
          refine e_iload_n dX12_as_38 rfl ?_
          refine e_top (nI (tn k)) (hn_k) ?_
          refine e_icmp_eqN 50 dX12_as_39 (by decide) (by omega) (by omega) (fun hcq39 => ?_) (fun hcq39 => ?_)
          · refine e_iload_n dX12_as_50 rfl ?_
            refine e_if_geN 63 dX12_as_51 (by decide) (by omega) ?_
            refine e_aload_n dX12_as_63 rfl ?_
            refine e_iload_n dX12_as_64 rfl ?_
            refine e_top (nI (tn t)) (hn_t) ?_
            refine e_iconst (nI (3)) dX12_as_65 (by decide) ?_
            refine c_V2iR (N := mX12_thing) dX12_as_66 lv_X12_136 mo_X12_thing hR.cn (Nat.le_of_ble_eq_true rfl) (Nat.le_of_ble_eq_true rfl) (by decide) (s_thing D hR (tn t) (3) (by omega) (by omega)) ?_
            have e9 : f_as s t k = (((sN s) (112 + 7 * (tn t) + 3)), s) := by rw [f_as, if_pos hcq6, if_pos hcq16, if_pos (by rw [hkd]; simp [upK]; omega)]
            rw [e9] at hp
            exact e_iret dX12_as_69 rfl (hp _ ⟨⟨_, _, hR, hS⟩, hF⟩)
          · refine e_iload_n dX12_as_42 rfl ?_
            refine c_S1iR (N := mX12_above) dX12_as_43 ls_X12_154 mo_X12_above  (Nat.le_of_ble_eq_true rfl) (Nat.le_of_ble_eq_true rfl) (by decide) (s_abv0 D) ?_
            refine e_istore_n dX12_as_46 (by decide) ?_
            refine e_goto 33 dX12_as_47 (by decide) ?_
            refine e_iload_n dX12_as_33 rfl ?_
            refine e_if_lt 50 dX12_as_34 (by decide) (fun hcq34 => ?_) (fun hcq34 => absurd (show (-1 : Int32) < 0 by decide) hcq34)
            refine e_iload_n dX12_as_50 rfl ?_
            refine e_if_ge 63 dX12_as_51 (by decide) (fun hcq51 => absurd hcq51 (by decide)) (fun hcq51 => ?_)
            refine e_aload_n dX12_as_54 rfl ?_
            refine e_ldc dX12_as_55 w_1410 ?_
            refine c_V1i (nc := 0) (ns := 0) (mc := 0) (ms := 0) (N := mX12_finding) dX12_as_57 lv_X12_90 mo_X12_finding hR.cn (Nat.le_of_ble_eq_true rfl) (Nat.le_of_ble_eq_true rfl) (by decide) (s_finding D hR 5 (by decide) (((-1000000005))) fE5) (fun h hP => ?_)
            obtain ⟨hR, hF1⟩ := hP
            have hF := hF.trans hF1
            have hS := hS.er 5
            refine e_top (lowE 5) lE5 ?_
            refine e_goto 69 dX12_as_60 (by decide) ?_
            have e9 : f_as s t k = er 5 (s) := by rw [f_as, if_pos hcq6, if_pos hcq16, if_neg (by rw [hkd]; simp [upK]; omega)]
            rw [e9] at hp
            exact e_iret dX12_as_69 rfl (hp _ ⟨⟨_, _, hR, hS⟩, hF⟩)
      · refine e_top (nI 2) (by rw [hkd]) ?_
        refine e_istore_n dX12_as_32 (by decide) ?_
        refine e_iload_n dX12_as_33 rfl ?_
        refine e_if_ltN (tgt := 50) dX12_as_34 (by decide) (by omega) ?_
        refine e_iload_n dX12_as_37 rfl ?_
        refine e_iload_n dX12_as_38 rfl ?_
        refine e_top (nI (tn k)) (hn_k) ?_
        refine e_icmp_eqN 50 dX12_as_39 (by decide) (by omega) (by omega) (fun hcq39 => ?_) (fun hcq39 => ?_)
        · refine e_iload_n dX12_as_50 rfl ?_
          refine e_if_geN 63 dX12_as_51 (by decide) (by omega) ?_
          refine e_aload_n dX12_as_63 rfl ?_
          refine e_iload_n dX12_as_64 rfl ?_
          refine e_top (nI (tn t)) (hn_t) ?_
          refine e_iconst (nI (3)) dX12_as_65 (by decide) ?_
          refine c_V2iR (N := mX12_thing) dX12_as_66 lv_X12_136 mo_X12_thing hR.cn (Nat.le_of_ble_eq_true rfl) (Nat.le_of_ble_eq_true rfl) (by decide) (s_thing D hR (tn t) (3) (by omega) (by omega)) ?_
          have e9 : f_as s t k = (((sN s) (112 + 7 * (tn t) + 3)), s) := by rw [f_as, if_pos hcq6, if_pos hcq16, if_pos (by rw [hkd]; simp [upK]; omega)]
          rw [e9] at hp
          exact e_iret dX12_as_69 rfl (hp _ ⟨⟨_, _, hR, hS⟩, hF⟩)
        · refine e_iload_n dX12_as_42 rfl ?_
          refine c_S1iR (N := mX12_above) dX12_as_43 ls_X12_154 mo_X12_above  (Nat.le_of_ble_eq_true rfl) (Nat.le_of_ble_eq_true rfl) (by decide) (s_abv2 D) ?_
          refine e_istore_n dX12_as_46 (by decide) ?_
          refine e_goto 33 dX12_as_47 (by decide) ?_
          refine e_iload_n dX12_as_33 rfl ?_
          refine e_if_ltN (tgt := 50) dX12_as_34 (by decide) (by omega) ?_
          refine e_iload_n dX12_as_37 rfl ?_
          refine e_iload_n dX12_as_38 rfl ?_
          refine e_top (nI (tn k)) (hn_k) ?_
          refine e_icmp_eqN 50 dX12_as_39 (by decide) (by omega) (by omega) (fun hcq39 => ?_) (fun hcq39 => ?_)
          · refine e_iload_n dX12_as_50 rfl ?_
            refine e_if_geN 63 dX12_as_51 (by decide) (by omega) ?_
            refine e_aload_n dX12_as_63 rfl ?_
            refine e_iload_n dX12_as_64 rfl ?_
            refine e_top (nI (tn t)) (hn_t) ?_
            refine e_iconst (nI (3)) dX12_as_65 (by decide) ?_
            refine c_V2iR (N := mX12_thing) dX12_as_66 lv_X12_136 mo_X12_thing hR.cn (Nat.le_of_ble_eq_true rfl) (Nat.le_of_ble_eq_true rfl) (by decide) (s_thing D hR (tn t) (3) (by omega) (by omega)) ?_
            have e9 : f_as s t k = (((sN s) (112 + 7 * (tn t) + 3)), s) := by rw [f_as, if_pos hcq6, if_pos hcq16, if_pos (by rw [hkd]; simp [upK]; omega)]
            rw [e9] at hp
            exact e_iret dX12_as_69 rfl (hp _ ⟨⟨_, _, hR, hS⟩, hF⟩)
          · refine e_iload_n dX12_as_42 rfl ?_
            refine c_S1iR (N := mX12_above) dX12_as_43 ls_X12_154 mo_X12_above  (Nat.le_of_ble_eq_true rfl) (Nat.le_of_ble_eq_true rfl) (by decide) (s_abv0 D) ?_
            refine e_istore_n dX12_as_46 (by decide) ?_
            refine e_goto 33 dX12_as_47 (by decide) ?_
            refine e_iload_n dX12_as_33 rfl ?_
            refine e_if_lt 50 dX12_as_34 (by decide) (fun hcq34 => ?_) (fun hcq34 => absurd (show (-1 : Int32) < 0 by decide) hcq34)
            refine e_iload_n dX12_as_50 rfl ?_
            refine e_if_ge 63 dX12_as_51 (by decide) (fun hcq51 => absurd hcq51 (by decide)) (fun hcq51 => ?_)
            refine e_aload_n dX12_as_54 rfl ?_
            refine e_ldc dX12_as_55 w_1410 ?_
            refine c_V1i (nc := 0) (ns := 0) (mc := 0) (ms := 0) (N := mX12_finding) dX12_as_57 lv_X12_90 mo_X12_finding hR.cn (Nat.le_of_ble_eq_true rfl) (Nat.le_of_ble_eq_true rfl) (by decide) (s_finding D hR 5 (by decide) (((-1000000005))) fE5) (fun h hP => ?_)
            obtain ⟨hR, hF1⟩ := hP
            have hF := hF.trans hF1
            have hS := hS.er 5
            refine e_top (lowE 5) lE5 ?_
            refine e_goto 69 dX12_as_60 (by decide) ?_
            have e9 : f_as s t k = er 5 (s) := by rw [f_as, if_pos hcq6, if_pos hcq16, if_neg (by rw [hkd]; simp [upK]; omega)]
            rw [e9] at hp
            exact e_iret dX12_as_69 rfl (hp _ ⟨⟨_, _, hR, hS⟩, hF⟩)
      · refine e_top (nI 3) (by rw [hkd]) ?_
        refine e_istore_n dX12_as_32 (by decide) ?_
        refine e_iload_n dX12_as_33 rfl ?_
        refine e_if_ltN (tgt := 50) dX12_as_34 (by decide) (by omega) ?_
        refine e_iload_n dX12_as_37 rfl ?_
        refine e_iload_n dX12_as_38 rfl ?_
        refine e_top (nI (tn k)) (hn_k) ?_
        refine e_icmp_eqN 50 dX12_as_39 (by decide) (by omega) (by omega) (fun hcq39 => ?_) (fun hcq39 => ?_)
        · refine e_iload_n dX12_as_50 rfl ?_
          refine e_if_geN 63 dX12_as_51 (by decide) (by omega) ?_
          refine e_aload_n dX12_as_63 rfl ?_
          refine e_iload_n dX12_as_64 rfl ?_
          refine e_top (nI (tn t)) (hn_t) ?_
          refine e_iconst (nI (3)) dX12_as_65 (by decide) ?_
          refine c_V2iR (N := mX12_thing) dX12_as_66 lv_X12_136 mo_X12_thing hR.cn (Nat.le_of_ble_eq_true rfl) (Nat.le_of_ble_eq_true rfl) (by decide) (s_thing D hR (tn t) (3) (by omega) (by omega)) ?_
          have e9 : f_as s t k = (((sN s) (112 + 7 * (tn t) + 3)), s) := by rw [f_as, if_pos hcq6, if_pos hcq16, if_pos (by rw [hkd]; simp [upK]; omega)]
          rw [e9] at hp
          exact e_iret dX12_as_69 rfl (hp _ ⟨⟨_, _, hR, hS⟩, hF⟩)
        · refine e_iload_n dX12_as_42 rfl ?_
          refine c_S1iR (N := mX12_above) dX12_as_43 ls_X12_154 mo_X12_above  (Nat.le_of_ble_eq_true rfl) (Nat.le_of_ble_eq_true rfl) (by decide) (s_abv3 D) ?_
          refine e_istore_n dX12_as_46 (by decide) ?_
          refine e_goto 33 dX12_as_47 (by decide) ?_
          refine e_iload_n dX12_as_33 rfl ?_
          refine e_if_ltN (tgt := 50) dX12_as_34 (by decide) (by omega) ?_
          refine e_iload_n dX12_as_37 rfl ?_
          refine e_iload_n dX12_as_38 rfl ?_
          refine e_top (nI (tn k)) (hn_k) ?_
          refine e_icmp_eqN 50 dX12_as_39 (by decide) (by omega) (by omega) (fun hcq39 => ?_) (fun hcq39 => ?_)
          · refine e_iload_n dX12_as_50 rfl ?_
            refine e_if_geN 63 dX12_as_51 (by decide) (by omega) ?_
            refine e_aload_n dX12_as_63 rfl ?_
            refine e_iload_n dX12_as_64 rfl ?_
            refine e_top (nI (tn t)) (hn_t) ?_
            refine e_iconst (nI (3)) dX12_as_65 (by decide) ?_
            refine c_V2iR (N := mX12_thing) dX12_as_66 lv_X12_136 mo_X12_thing hR.cn (Nat.le_of_ble_eq_true rfl) (Nat.le_of_ble_eq_true rfl) (by decide) (s_thing D hR (tn t) (3) (by omega) (by omega)) ?_
            have e9 : f_as s t k = (((sN s) (112 + 7 * (tn t) + 3)), s) := by rw [f_as, if_pos hcq6, if_pos hcq16, if_pos (by rw [hkd]; simp [upK]; omega)]
            rw [e9] at hp
            exact e_iret dX12_as_69 rfl (hp _ ⟨⟨_, _, hR, hS⟩, hF⟩)
          · refine e_iload_n dX12_as_42 rfl ?_
            refine c_S1iR (N := mX12_above) dX12_as_43 ls_X12_154 mo_X12_above  (Nat.le_of_ble_eq_true rfl) (Nat.le_of_ble_eq_true rfl) (by decide) (s_abv2 D) ?_
            refine e_istore_n dX12_as_46 (by decide) ?_
            refine e_goto 33 dX12_as_47 (by decide) ?_
            refine e_iload_n dX12_as_33 rfl ?_
            refine e_if_ltN (tgt := 50) dX12_as_34 (by decide) (by omega) ?_
            refine e_iload_n dX12_as_37 rfl ?_
            refine e_iload_n dX12_as_38 rfl ?_
            refine e_top (nI (tn k)) (hn_k) ?_
            refine e_icmp_eqN 50 dX12_as_39 (by decide) (by omega) (by omega) (fun hcq39 => ?_) (fun hcq39 => ?_)
            · refine e_iload_n dX12_as_50 rfl ?_
              refine e_if_geN 63 dX12_as_51 (by decide) (by omega) ?_
              refine e_aload_n dX12_as_63 rfl ?_
              refine e_iload_n dX12_as_64 rfl ?_
              refine e_top (nI (tn t)) (hn_t) ?_
              refine e_iconst (nI (3)) dX12_as_65 (by decide) ?_
              refine c_V2iR (N := mX12_thing) dX12_as_66 lv_X12_136 mo_X12_thing hR.cn (Nat.le_of_ble_eq_true rfl) (Nat.le_of_ble_eq_true rfl) (by decide) (s_thing D hR (tn t) (3) (by omega) (by omega)) ?_
              have e9 : f_as s t k = (((sN s) (112 + 7 * (tn t) + 3)), s) := by rw [f_as, if_pos hcq6, if_pos hcq16, if_pos (by rw [hkd]; simp [upK]; omega)]
              rw [e9] at hp
              exact e_iret dX12_as_69 rfl (hp _ ⟨⟨_, _, hR, hS⟩, hF⟩)
            · refine e_iload_n dX12_as_42 rfl ?_
              refine c_S1iR (N := mX12_above) dX12_as_43 ls_X12_154 mo_X12_above  (Nat.le_of_ble_eq_true rfl) (Nat.le_of_ble_eq_true rfl) (by decide) (s_abv0 D) ?_
              refine e_istore_n dX12_as_46 (by decide) ?_
              refine e_goto 33 dX12_as_47 (by decide) ?_
              refine e_iload_n dX12_as_33 rfl ?_
              refine e_if_lt 50 dX12_as_34 (by decide) (fun hcq34 => ?_) (fun hcq34 => absurd (show (-1 : Int32) < 0 by decide) hcq34)
              refine e_iload_n dX12_as_50 rfl ?_
              refine e_if_ge 63 dX12_as_51 (by decide) (fun hcq51 => absurd hcq51 (by decide)) (fun hcq51 => ?_)
              refine e_aload_n dX12_as_54 rfl ?_
              refine e_ldc dX12_as_55 w_1410 ?_
              refine c_V1i (nc := 0) (ns := 0) (mc := 0) (ms := 0) (N := mX12_finding) dX12_as_57 lv_X12_90 mo_X12_finding hR.cn (Nat.le_of_ble_eq_true rfl) (Nat.le_of_ble_eq_true rfl) (by decide) (s_finding D hR 5 (by decide) (((-1000000005))) fE5) (fun h hP => ?_)
              obtain ⟨hR, hF1⟩ := hP
              have hF := hF.trans hF1
              have hS := hS.er 5
              refine e_top (lowE 5) lE5 ?_
              refine e_goto 69 dX12_as_60 (by decide) ?_
              have e9 : f_as s t k = er 5 (s) := by rw [f_as, if_pos hcq6, if_pos hcq16, if_neg (by rw [hkd]; simp [upK]; omega)]
              rw [e9] at hp
              exact e_iret dX12_as_69 rfl (hp _ ⟨⟨_, _, hR, hS⟩, hF⟩)
      · refine e_top (nI 4) (by rw [hkd]) ?_
        refine e_istore_n dX12_as_32 (by decide) ?_
        refine e_iload_n dX12_as_33 rfl ?_
        refine e_if_ltN (tgt := 50) dX12_as_34 (by decide) (by omega) ?_
        refine e_iload_n dX12_as_37 rfl ?_
        refine e_iload_n dX12_as_38 rfl ?_
        refine e_top (nI (tn k)) (hn_k) ?_
        refine e_icmp_eqN 50 dX12_as_39 (by decide) (by omega) (by omega) (fun hcq39 => ?_) (fun hcq39 => ?_)
        · refine e_iload_n dX12_as_50 rfl ?_
          refine e_if_geN 63 dX12_as_51 (by decide) (by omega) ?_
          refine e_aload_n dX12_as_63 rfl ?_
          refine e_iload_n dX12_as_64 rfl ?_
          refine e_top (nI (tn t)) (hn_t) ?_
          refine e_iconst (nI (3)) dX12_as_65 (by decide) ?_
          refine c_V2iR (N := mX12_thing) dX12_as_66 lv_X12_136 mo_X12_thing hR.cn (Nat.le_of_ble_eq_true rfl) (Nat.le_of_ble_eq_true rfl) (by decide) (s_thing D hR (tn t) (3) (by omega) (by omega)) ?_
          have e9 : f_as s t k = (((sN s) (112 + 7 * (tn t) + 3)), s) := by rw [f_as, if_pos hcq6, if_pos hcq16, if_pos (by rw [hkd]; simp [upK]; omega)]
          rw [e9] at hp
          exact e_iret dX12_as_69 rfl (hp _ ⟨⟨_, _, hR, hS⟩, hF⟩)
        · refine e_iload_n dX12_as_42 rfl ?_
          refine c_S1iR (N := mX12_above) dX12_as_43 ls_X12_154 mo_X12_above  (Nat.le_of_ble_eq_true rfl) (Nat.le_of_ble_eq_true rfl) (by decide) (s_abv4 D) ?_
          refine e_istore_n dX12_as_46 (by decide) ?_
          refine e_goto 33 dX12_as_47 (by decide) ?_
          refine e_iload_n dX12_as_33 rfl ?_
          refine e_if_ltN (tgt := 50) dX12_as_34 (by decide) (by omega) ?_
          refine e_iload_n dX12_as_37 rfl ?_
          refine e_iload_n dX12_as_38 rfl ?_
          refine e_top (nI (tn k)) (hn_k) ?_
          refine e_icmp_eqN 50 dX12_as_39 (by decide) (by omega) (by omega) (fun hcq39 => ?_) (fun hcq39 => ?_)
          · refine e_iload_n dX12_as_50 rfl ?_
            refine e_if_geN 63 dX12_as_51 (by decide) (by omega) ?_
            refine e_aload_n dX12_as_63 rfl ?_
            refine e_iload_n dX12_as_64 rfl ?_
            refine e_top (nI (tn t)) (hn_t) ?_
            refine e_iconst (nI (3)) dX12_as_65 (by decide) ?_
            refine c_V2iR (N := mX12_thing) dX12_as_66 lv_X12_136 mo_X12_thing hR.cn (Nat.le_of_ble_eq_true rfl) (Nat.le_of_ble_eq_true rfl) (by decide) (s_thing D hR (tn t) (3) (by omega) (by omega)) ?_
            have e9 : f_as s t k = (((sN s) (112 + 7 * (tn t) + 3)), s) := by rw [f_as, if_pos hcq6, if_pos hcq16, if_pos (by rw [hkd]; simp [upK]; omega)]
            rw [e9] at hp
            exact e_iret dX12_as_69 rfl (hp _ ⟨⟨_, _, hR, hS⟩, hF⟩)
          · refine e_iload_n dX12_as_42 rfl ?_
            refine c_S1iR (N := mX12_above) dX12_as_43 ls_X12_154 mo_X12_above  (Nat.le_of_ble_eq_true rfl) (Nat.le_of_ble_eq_true rfl) (by decide) (s_abv0 D) ?_
            refine e_istore_n dX12_as_46 (by decide) ?_
            refine e_goto 33 dX12_as_47 (by decide) ?_
            refine e_iload_n dX12_as_33 rfl ?_
            refine e_if_lt 50 dX12_as_34 (by decide) (fun hcq34 => ?_) (fun hcq34 => absurd (show (-1 : Int32) < 0 by decide) hcq34)
            refine e_iload_n dX12_as_50 rfl ?_
            refine e_if_ge 63 dX12_as_51 (by decide) (fun hcq51 => absurd hcq51 (by decide)) (fun hcq51 => ?_)
            refine e_aload_n dX12_as_54 rfl ?_
            refine e_ldc dX12_as_55 w_1410 ?_
            refine c_V1i (nc := 0) (ns := 0) (mc := 0) (ms := 0) (N := mX12_finding) dX12_as_57 lv_X12_90 mo_X12_finding hR.cn (Nat.le_of_ble_eq_true rfl) (Nat.le_of_ble_eq_true rfl) (by decide) (s_finding D hR 5 (by decide) (((-1000000005))) fE5) (fun h hP => ?_)
            obtain ⟨hR, hF1⟩ := hP
            have hF := hF.trans hF1
            have hS := hS.er 5
            refine e_top (lowE 5) lE5 ?_
            refine e_goto 69 dX12_as_60 (by decide) ?_
            have e9 : f_as s t k = er 5 (s) := by rw [f_as, if_pos hcq6, if_pos hcq16, if_neg (by rw [hkd]; simp [upK]; omega)]
            rw [e9] at hp
            exact e_iret dX12_as_69 rfl (hp _ ⟨⟨_, _, hR, hS⟩, hF⟩)
      · refine e_top (nI 5) (by rw [hkd]) ?_
        refine e_istore_n dX12_as_32 (by decide) ?_
        refine e_iload_n dX12_as_33 rfl ?_
        refine e_if_ltN (tgt := 50) dX12_as_34 (by decide) (by omega) ?_
        refine e_iload_n dX12_as_37 rfl ?_
        refine e_iload_n dX12_as_38 rfl ?_
        refine e_top (nI (tn k)) (hn_k) ?_
        refine e_icmp_eqN 50 dX12_as_39 (by decide) (by omega) (by omega) (fun hcq39 => ?_) (fun hcq39 => ?_)
        · refine e_iload_n dX12_as_50 rfl ?_
          refine e_if_geN 63 dX12_as_51 (by decide) (by omega) ?_
          refine e_aload_n dX12_as_63 rfl ?_
          refine e_iload_n dX12_as_64 rfl ?_
          refine e_top (nI (tn t)) (hn_t) ?_
          refine e_iconst (nI (3)) dX12_as_65 (by decide) ?_
          refine c_V2iR (N := mX12_thing) dX12_as_66 lv_X12_136 mo_X12_thing hR.cn (Nat.le_of_ble_eq_true rfl) (Nat.le_of_ble_eq_true rfl) (by decide) (s_thing D hR (tn t) (3) (by omega) (by omega)) ?_
          have e9 : f_as s t k = (((sN s) (112 + 7 * (tn t) + 3)), s) := by rw [f_as, if_pos hcq6, if_pos hcq16, if_pos (by rw [hkd]; simp [upK]; omega)]
          rw [e9] at hp
          exact e_iret dX12_as_69 rfl (hp _ ⟨⟨_, _, hR, hS⟩, hF⟩)
        · refine e_iload_n dX12_as_42 rfl ?_
          refine c_S1iR (N := mX12_above) dX12_as_43 ls_X12_154 mo_X12_above  (Nat.le_of_ble_eq_true rfl) (Nat.le_of_ble_eq_true rfl) (by decide) (s_abv5 D) ?_
          refine e_istore_n dX12_as_46 (by decide) ?_
          refine e_goto 33 dX12_as_47 (by decide) ?_
          refine e_iload_n dX12_as_33 rfl ?_
          refine e_if_ltN (tgt := 50) dX12_as_34 (by decide) (by omega) ?_
          refine e_iload_n dX12_as_37 rfl ?_
          refine e_iload_n dX12_as_38 rfl ?_
          refine e_top (nI (tn k)) (hn_k) ?_
          refine e_icmp_eqN 50 dX12_as_39 (by decide) (by omega) (by omega) (fun hcq39 => ?_) (fun hcq39 => ?_)
          · refine e_iload_n dX12_as_50 rfl ?_
            refine e_if_geN 63 dX12_as_51 (by decide) (by omega) ?_
            refine e_aload_n dX12_as_63 rfl ?_
            refine e_iload_n dX12_as_64 rfl ?_
            refine e_top (nI (tn t)) (hn_t) ?_
            refine e_iconst (nI (3)) dX12_as_65 (by decide) ?_
            refine c_V2iR (N := mX12_thing) dX12_as_66 lv_X12_136 mo_X12_thing hR.cn (Nat.le_of_ble_eq_true rfl) (Nat.le_of_ble_eq_true rfl) (by decide) (s_thing D hR (tn t) (3) (by omega) (by omega)) ?_
            have e9 : f_as s t k = (((sN s) (112 + 7 * (tn t) + 3)), s) := by rw [f_as, if_pos hcq6, if_pos hcq16, if_pos (by rw [hkd]; simp [upK]; omega)]
            rw [e9] at hp
            exact e_iret dX12_as_69 rfl (hp _ ⟨⟨_, _, hR, hS⟩, hF⟩)
          · refine e_iload_n dX12_as_42 rfl ?_
            refine c_S1iR (N := mX12_above) dX12_as_43 ls_X12_154 mo_X12_above  (Nat.le_of_ble_eq_true rfl) (Nat.le_of_ble_eq_true rfl) (by decide) (s_abv1 D) ?_
            refine e_istore_n dX12_as_46 (by decide) ?_
            refine e_goto 33 dX12_as_47 (by decide) ?_
            refine e_iload_n dX12_as_33 rfl ?_
            refine e_if_ltN (tgt := 50) dX12_as_34 (by decide) (by omega) ?_
            refine e_iload_n dX12_as_37 rfl ?_
            refine e_iload_n dX12_as_38 rfl ?_
            refine e_top (nI (tn k)) (hn_k) ?_
            refine e_icmp_eqN 50 dX12_as_39 (by decide) (by omega) (by omega) (fun hcq39 => ?_) (fun hcq39 => ?_)
            · refine e_iload_n dX12_as_50 rfl ?_
              refine e_if_geN 63 dX12_as_51 (by decide) (by omega) ?_
              refine e_aload_n dX12_as_63 rfl ?_
              refine e_iload_n dX12_as_64 rfl ?_
              refine e_top (nI (tn t)) (hn_t) ?_
              refine e_iconst (nI (3)) dX12_as_65 (by decide) ?_
              refine c_V2iR (N := mX12_thing) dX12_as_66 lv_X12_136 mo_X12_thing hR.cn (Nat.le_of_ble_eq_true rfl) (Nat.le_of_ble_eq_true rfl) (by decide) (s_thing D hR (tn t) (3) (by omega) (by omega)) ?_
              have e9 : f_as s t k = (((sN s) (112 + 7 * (tn t) + 3)), s) := by rw [f_as, if_pos hcq6, if_pos hcq16, if_pos (by rw [hkd]; simp [upK]; omega)]
              rw [e9] at hp
              exact e_iret dX12_as_69 rfl (hp _ ⟨⟨_, _, hR, hS⟩, hF⟩)
            · refine e_iload_n dX12_as_42 rfl ?_
              refine c_S1iR (N := mX12_above) dX12_as_43 ls_X12_154 mo_X12_above  (Nat.le_of_ble_eq_true rfl) (Nat.le_of_ble_eq_true rfl) (by decide) (s_abv0 D) ?_
              refine e_istore_n dX12_as_46 (by decide) ?_
              refine e_goto 33 dX12_as_47 (by decide) ?_
              refine e_iload_n dX12_as_33 rfl ?_
              refine e_if_lt 50 dX12_as_34 (by decide) (fun hcq34 => ?_) (fun hcq34 => absurd (show (-1 : Int32) < 0 by decide) hcq34)
              refine e_iload_n dX12_as_50 rfl ?_
              refine e_if_ge 63 dX12_as_51 (by decide) (fun hcq51 => absurd hcq51 (by decide)) (fun hcq51 => ?_)
              refine e_aload_n dX12_as_54 rfl ?_
              refine e_ldc dX12_as_55 w_1410 ?_
              refine c_V1i (nc := 0) (ns := 0) (mc := 0) (ms := 0) (N := mX12_finding) dX12_as_57 lv_X12_90 mo_X12_finding hR.cn (Nat.le_of_ble_eq_true rfl) (Nat.le_of_ble_eq_true rfl) (by decide) (s_finding D hR 5 (by decide) (((-1000000005))) fE5) (fun h hP => ?_)
              obtain ⟨hR, hF1⟩ := hP
              have hF := hF.trans hF1
              have hS := hS.er 5
              refine e_top (lowE 5) lE5 ?_
              refine e_goto 69 dX12_as_60 (by decide) ?_
              have e9 : f_as s t k = er 5 (s) := by rw [f_as, if_pos hcq6, if_pos hcq16, if_neg (by rw [hkd]; simp [upK]; omega)]
              rw [e9] at hp
              exact e_iret dX12_as_69 rfl (hp _ ⟨⟨_, _, hR, hS⟩, hF⟩)
      · refine e_top (nI 6) (by rw [hkd]) ?_
        refine e_istore_n dX12_as_32 (by decide) ?_
        refine e_iload_n dX12_as_33 rfl ?_
        refine e_if_ltN (tgt := 50) dX12_as_34 (by decide) (by omega) ?_
        refine e_iload_n dX12_as_37 rfl ?_
        refine e_iload_n dX12_as_38 rfl ?_
        refine e_top (nI (tn k)) (hn_k) ?_
        refine e_icmp_eqN 50 dX12_as_39 (by decide) (by omega) (by omega) (fun hcq39 => ?_) (fun hcq39 => ?_)
        · refine e_iload_n dX12_as_50 rfl ?_
          refine e_if_geN 63 dX12_as_51 (by decide) (by omega) ?_
          refine e_aload_n dX12_as_63 rfl ?_
          refine e_iload_n dX12_as_64 rfl ?_
          refine e_top (nI (tn t)) (hn_t) ?_
          refine e_iconst (nI (3)) dX12_as_65 (by decide) ?_
          refine c_V2iR (N := mX12_thing) dX12_as_66 lv_X12_136 mo_X12_thing hR.cn (Nat.le_of_ble_eq_true rfl) (Nat.le_of_ble_eq_true rfl) (by decide) (s_thing D hR (tn t) (3) (by omega) (by omega)) ?_
          have e9 : f_as s t k = (((sN s) (112 + 7 * (tn t) + 3)), s) := by rw [f_as, if_pos hcq6, if_pos hcq16, if_pos (by rw [hkd]; simp [upK]; omega)]
          rw [e9] at hp
          exact e_iret dX12_as_69 rfl (hp _ ⟨⟨_, _, hR, hS⟩, hF⟩)
        · refine e_iload_n dX12_as_42 rfl ?_
          refine c_S1iR (N := mX12_above) dX12_as_43 ls_X12_154 mo_X12_above  (Nat.le_of_ble_eq_true rfl) (Nat.le_of_ble_eq_true rfl) (by decide) (s_abv6 D) ?_
          refine e_istore_n dX12_as_46 (by decide) ?_
          refine e_goto 33 dX12_as_47 (by decide) ?_
          refine e_iload_n dX12_as_33 rfl ?_
          refine e_if_ltN (tgt := 50) dX12_as_34 (by decide) (by omega) ?_
          refine e_iload_n dX12_as_37 rfl ?_
          refine e_iload_n dX12_as_38 rfl ?_
          refine e_top (nI (tn k)) (hn_k) ?_
          refine e_icmp_eqN 50 dX12_as_39 (by decide) (by omega) (by omega) (fun hcq39 => ?_) (fun hcq39 => ?_)
          · refine e_iload_n dX12_as_50 rfl ?_
            refine e_if_geN 63 dX12_as_51 (by decide) (by omega) ?_
            refine e_aload_n dX12_as_63 rfl ?_
            refine e_iload_n dX12_as_64 rfl ?_
            refine e_top (nI (tn t)) (hn_t) ?_
            refine e_iconst (nI (3)) dX12_as_65 (by decide) ?_
            refine c_V2iR (N := mX12_thing) dX12_as_66 lv_X12_136 mo_X12_thing hR.cn (Nat.le_of_ble_eq_true rfl) (Nat.le_of_ble_eq_true rfl) (by decide) (s_thing D hR (tn t) (3) (by omega) (by omega)) ?_
            have e9 : f_as s t k = (((sN s) (112 + 7 * (tn t) + 3)), s) := by rw [f_as, if_pos hcq6, if_pos hcq16, if_pos (by rw [hkd]; simp [upK]; omega)]
            rw [e9] at hp
            exact e_iret dX12_as_69 rfl (hp _ ⟨⟨_, _, hR, hS⟩, hF⟩)
          · refine e_iload_n dX12_as_42 rfl ?_
            refine c_S1iR (N := mX12_above) dX12_as_43 ls_X12_154 mo_X12_above  (Nat.le_of_ble_eq_true rfl) (Nat.le_of_ble_eq_true rfl) (by decide) (s_abv4 D) ?_
            refine e_istore_n dX12_as_46 (by decide) ?_
            refine e_goto 33 dX12_as_47 (by decide) ?_
            refine e_iload_n dX12_as_33 rfl ?_
            refine e_if_ltN (tgt := 50) dX12_as_34 (by decide) (by omega) ?_
            refine e_iload_n dX12_as_37 rfl ?_
            refine e_iload_n dX12_as_38 rfl ?_
            refine e_top (nI (tn k)) (hn_k) ?_
            refine e_icmp_eqN 50 dX12_as_39 (by decide) (by omega) (by omega) (fun hcq39 => ?_) (fun hcq39 => ?_)
            · refine e_iload_n dX12_as_50 rfl ?_
              refine e_if_geN 63 dX12_as_51 (by decide) (by omega) ?_
              refine e_aload_n dX12_as_63 rfl ?_
              refine e_iload_n dX12_as_64 rfl ?_
              refine e_top (nI (tn t)) (hn_t) ?_
              refine e_iconst (nI (3)) dX12_as_65 (by decide) ?_
              refine c_V2iR (N := mX12_thing) dX12_as_66 lv_X12_136 mo_X12_thing hR.cn (Nat.le_of_ble_eq_true rfl) (Nat.le_of_ble_eq_true rfl) (by decide) (s_thing D hR (tn t) (3) (by omega) (by omega)) ?_
              have e9 : f_as s t k = (((sN s) (112 + 7 * (tn t) + 3)), s) := by rw [f_as, if_pos hcq6, if_pos hcq16, if_pos (by rw [hkd]; simp [upK]; omega)]
              rw [e9] at hp
              exact e_iret dX12_as_69 rfl (hp _ ⟨⟨_, _, hR, hS⟩, hF⟩)
            · refine e_iload_n dX12_as_42 rfl ?_
              refine c_S1iR (N := mX12_above) dX12_as_43 ls_X12_154 mo_X12_above  (Nat.le_of_ble_eq_true rfl) (Nat.le_of_ble_eq_true rfl) (by decide) (s_abv0 D) ?_
              refine e_istore_n dX12_as_46 (by decide) ?_
              refine e_goto 33 dX12_as_47 (by decide) ?_
              refine e_iload_n dX12_as_33 rfl ?_
              refine e_if_lt 50 dX12_as_34 (by decide) (fun hcq34 => ?_) (fun hcq34 => absurd (show (-1 : Int32) < 0 by decide) hcq34)
              refine e_iload_n dX12_as_50 rfl ?_
              refine e_if_ge 63 dX12_as_51 (by decide) (fun hcq51 => absurd hcq51 (by decide)) (fun hcq51 => ?_)
              refine e_aload_n dX12_as_54 rfl ?_
              refine e_ldc dX12_as_55 w_1410 ?_
              refine c_V1i (nc := 0) (ns := 0) (mc := 0) (ms := 0) (N := mX12_finding) dX12_as_57 lv_X12_90 mo_X12_finding hR.cn (Nat.le_of_ble_eq_true rfl) (Nat.le_of_ble_eq_true rfl) (by decide) (s_finding D hR 5 (by decide) (((-1000000005))) fE5) (fun h hP => ?_)
              obtain ⟨hR, hF1⟩ := hP
              have hF := hF.trans hF1
              have hS := hS.er 5
              refine e_top (lowE 5) lE5 ?_
              refine e_goto 69 dX12_as_60 (by decide) ?_
              have e9 : f_as s t k = er 5 (s) := by rw [f_as, if_pos hcq6, if_pos hcq16, if_neg (by rw [hkd]; simp [upK]; omega)]
              rw [e9] at hp
              exact e_iret dX12_as_69 rfl (hp _ ⟨⟨_, _, hR, hS⟩, hF⟩)
    · refine e_aload_n dX12_as_19 rfl ?_
      refine e_ldc dX12_as_20 w_1294 ?_
      refine c_V1i (nc := 0) (ns := 0) (mc := 0) (ms := 0) (N := mX12_finding) dX12_as_22 lv_X12_90 mo_X12_finding hR.cn (Nat.le_of_ble_eq_true rfl) (Nat.le_of_ble_eq_true rfl) (by decide) (s_finding D hR 1 (by decide) (((-1000000001))) fE1) (fun h hP => ?_)
      obtain ⟨hR, hF1⟩ := hP
      have hF := hF.trans hF1
      have hS := hS.er 1
      refine e_top (lowE 1) lE1 ?_
      have e9 : f_as s t k = er 1 (s) := by rw [f_as, if_pos hcq6, if_neg hcq16]
      rw [e9] at hp
      exact e_iret dX12_as_25 rfl (hp _ ⟨⟨_, _, hR, hS⟩, hF⟩)
set_option maxRecDepth 20000 in
theorem rp_haven (D : En) {h : AH} {s : SS} (hI : INV s) (hRS : RefS h s)  : Sp D 5 mX12_haven [.ref (82)] h 0 0 (some (.int (f_haven s).1)) (fun h' => RefS h' (f_haven s).2 ∧ FrR h h') := by
  obtain ⟨σ, τ, hR, hS⟩ := hRS
  have hY := hI.1.1
  have hnv := hY.2.1
  have htc10 := hY.2.2.2.1
  obtain ⟨h00, hh00⟩ : ∃ z, z = h := ⟨_, rfl⟩
  have hF : FrR h00 h := by rw [hh00]; exact FrR.rf
  intro post hp
  rw [← hh00] at hp
  show Ev D 5 mX12_haven 0 [some (.ref (82))] [] h 0 0 post
  refine e_aload_n dX12_haven_0 rfl ?_
  refine c_V0v (nc := 0) (ns := 0) (mc := 0) (ms := 0) (N := mX12_findComforts) dX12_haven_1 lv_X12_164 mo_X12_findComforts hR.cn (Nat.le_of_ble_eq_true rfl) (Nat.le_of_ble_eq_true rfl) (by decide) (s_comE D hR hY.1 hY.2.1 hY.2.2.1 hY.2.2.2.1 hY.2.2.2.2.1) (fun h hP => ?_)
  obtain ⟨σ, hR, hE1, hC, hF1⟩ := hP
  have hF := hF.trans hF1
  rw [hS.2.1.1] at hC
  have hS := hS.to (fun i hi => hE1 i hi.2.1) rfl rfl
  refine e_aload_n dX12_haven_4 rfl ?_
  refine e_get dX12_haven_5 fl_X12_9_12 hR.1 rfl ?_
  refine e_iconst (nI (1)) dX12_haven_8 (by decide) ?_
  refine e_ild (1) (nI (nvN (sN s))) dX12_haven_9 hR.2.1 rfl (by omega) (by decide) hY.1 ?_
  refine e_if_neN 22 dX12_haven_10 (by decide) (by omega) (fun hcq10 => ?_) (fun hcq10 => ?_)
  · refine e_aload_n dX12_haven_22 rfl ?_
    refine c_V0iR (N := mX12_havenOf) dX12_haven_23 lv_X12_167 mo_X12_havenOf hR.cn (Nat.le_of_ble_eq_true rfl) (Nat.le_of_ble_eq_true rfl) (by decide) (s_havenOf D hR hY.1 hY.2.1) ?_
    refine e_top (nI (havW (cfN (sN s)) (nvN (sN s)))) (by rw [havW_congr hC]; rfl) ?_
    have e9 : f_haven s = (nI (havW (cfN (sN s)) (nvN (sN s))), s) := by rw [f_haven, if_neg hcq10]
    rw [e9] at hp
    exact e_iret dX12_haven_26 rfl (hp _ ⟨⟨_, _, hR, hS⟩, hF⟩)
  · refine e_aload_n dX12_haven_13 rfl ?_
    refine e_ldc dX12_haven_14 w_1340 ?_
    refine c_V1i (nc := 0) (ns := 0) (mc := 0) (ms := 0) (N := mX12_finding) dX12_haven_16 lv_X12_90 mo_X12_finding hR.cn (Nat.le_of_ble_eq_true rfl) (Nat.le_of_ble_eq_true rfl) (by decide) (s_finding D hR 2 (by decide) (((-1000000002))) fE2) (fun h hP => ?_)
    obtain ⟨hR, hF1⟩ := hP
    have hF := hF.trans hF1
    have hS := hS.er 2
    refine e_top (lowE 2) lE2 ?_
    refine e_goto 26 dX12_haven_19 (by decide) ?_
    have e9 : f_haven s = er 2 (s) := by rw [f_haven, if_pos hcq10]
    rw [e9] at hp
    exact e_iret dX12_haven_26 rfl (hp _ ⟨⟨_, _, hR, hS⟩, hF⟩)
set_option maxRecDepth 20000 in
theorem rp_law (D : En) {h : AH} {s : SS} (hI : INV s) (hRS : RefS h s) (u : Int32) (a : Int32) (b : Int32) (c : Int32) : Sp D 3 mX12_law [.ref (82), .int (u), .int (a), .int (b), .int (c)] h 0 0 (some (.int (f_law s u a b c).1)) (fun h' => RefS h' (f_law s u a b c).2 ∧ FrR h h') := by
  obtain ⟨σ, τ, hR, hS⟩ := hRS
  have hY := hI.1.1
  have hnv := hY.2.1
  have htc10 := hY.2.2.2.1
  obtain ⟨h00, hh00⟩ : ∃ z, z = h := ⟨_, rfl⟩
  have hF : FrR h00 h := by rw [hh00]; exact FrR.rf
  intro post hp
  rw [← hh00] at hp
  show Ev D 3 mX12_law 0 [some (.ref (82)), some (.int (u)), some (.int (a)), some (.int (b)), some (.int (c))] [] h 0 0 post
  refine e_iload_n dX12_law_0 rfl ?_
  refine e_iconst (nI (0)) dX12_law_1 (by decide) ?_
  refine e_iconst (nI (2)) dX12_law_2 (by decide) ?_
  refine c_S3iR (N := mX12_within) dX12_law_3 ls_X12_76 mo_X12_within  (Nat.le_of_ble_eq_true rfl) (Nat.le_of_ble_eq_true rfl) (by decide) (s_within D ((u)) (nI (0)) (nI (2))) ?_
  refine e_if_eqB 22 dX12_law_6 (by decide) (fun hcq6 => ?_) (fun hcq6 => ?_)
  · refine e_aload_n dX12_law_22 rfl ?_
    refine e_ldc dX12_law_23 w_1294 ?_
    refine c_V1i (nc := 0) (ns := 0) (mc := 0) (ms := 0) (N := mX12_finding) dX12_law_25 lv_X12_90 mo_X12_finding hR.cn (Nat.le_of_ble_eq_true rfl) (Nat.le_of_ble_eq_true rfl) (by decide) (s_finding D hR 1 (by decide) (((-1000000001))) fE1) (fun h hP => ?_)
    obtain ⟨hR, hF1⟩ := hP
    have hF := hF.trans hF1
    have hS := hS.er 1
    refine e_top (lowE 1) lE1 ?_
    have e9 : f_law s u a b c = er 1 (s) := by rw [f_law, if_neg hcq6]
    rw [e9] at hp
    exact e_iret dX12_law_28 rfl (hp _ ⟨⟨_, _, hR, hS⟩, hF⟩)
  · obtain ⟨hn_u, hg_u, hl_u⟩ := wiN hcq6 (by decide) (by decide)
    refine e_aload_n dX12_law_9 rfl ?_
    refine e_iload_n dX12_law_10 rfl ?_
    refine e_top (nI (tn u)) (hn_u) ?_
    refine e_iload_n dX12_law_11 rfl ?_
    refine e_iload_n dX12_law_12 rfl ?_
    refine e_iload dX12_law_13 rfl ?_
    refine e_iconst (nI (0)) dX12_law_15 (by decide) ?_
    refine c_V5i (nc := 0) (ns := 0) (mc := 0) (ms := 0) (N := mX12_given) dX12_law_16 lv_X12_243 mo_X12_given hR.cn (Nat.le_of_ble_eq_true rfl) (Nat.le_of_ble_eq_true rfl) (by decide) (s_givenE D hR (tn u) (by omega) (txN (sN s) (tn u)) (hY.2.2.2.2.2 _ (by omega)) _ _ _ _) (fun h hP => ?_)
    obtain ⟨σ, hR, hE1, hF1⟩ := hP
    have hF := hF.trans hF1
    have hS := hS.to (fun i hi => hE1 i hi.2.2.2.1) rfl rfl
    refine e_goto 28 dX12_law_19 (by decide) ?_
    have e9 : f_law s u a b c = ((givenR (txN (sN s) (tn u)) (tn u) ((a)) ((b)) ((c)) (nI (0))), s) := by rw [f_law, if_pos hcq6]
    rw [e9] at hp
    exact e_iret dX12_law_28 rfl (hp _ ⟨⟨_, _, hR, hS⟩, hF⟩)
theorem RS.q {σ : Nat → Nat → Int32} {τ : Nat → Int32} {s : SS} (hS : RS σ τ s) (k : Nat) (x : Int32) : RS (va_up σ 16 (upd (σ 16) k x)) τ (wH s (sW s) (sZ s) (upd (sQ s) k x)) := by
  obtain ⟨⟨a1, a2, a3, a4, a5, a6⟩, b, c⟩ := hS
  refine ⟨⟨a1, a2, a3, a4, a5, ?_⟩, b, c⟩
  rw [va_upS, a6]
  rfl
theorem RS.k {σ : Nat → Nat → Int32} {τ : Nat → Int32} {s : SS} (hS : RS σ τ s) (x : Int32) : RS (va_up σ 1 (sN s)) (upd τ 0 x) (wK s (sN s) x) := by
  obtain ⟨⟨a1, a2, a3, a4, a5, a6⟩, b, c1, c2, c3⟩ := hS
  exact ⟨⟨rfl, a2, a3, a4, a5, a6⟩, b, rfl, c2, c3⟩
theorem RS.t {σ : Nat → Nat → Int32} {τ τ' : Nat → Int32} {s : SS} (hS : RS σ τ s) (t : TS) (h0 : τ' 0 = τ 0) (h6 : τ' 6 = nI t.2) (h40 : t.2 ≤ 40) : RS (va_up σ 13 t.1) τ' (wT s t) := by
  obtain ⟨⟨a1, a2, a3, a4, a5, a6⟩, b, c1, c2, c3⟩ := hS
  exact ⟨⟨a1, a2, rfl, a4, a5, a6⟩, b, h0.trans c1, h6, h40⟩
set_option maxRecDepth 20000 in
theorem rp_trace (D : En) {h : AH} {s : SS} (hI : INV s) (hRS : RefS h s) (i : Int32) : Sp D 1 mX12_trace [.ref (82), .int (i)] h 0 0 (some (.int (f_trace s i).1)) (fun h' => RefS h' (f_trace s i).2 ∧ FrR h h') := by
  obtain ⟨σ, τ, hR, hS⟩ := hRS
  have hY := hI.1.1
  have hnv := hY.2.1
  have htc10 := hY.2.2.2.1
  obtain ⟨h00, hh00⟩ : ∃ z, z = h := ⟨_, rfl⟩
  have hF : FrR h00 h := by rw [hh00]; exact FrR.rf
  intro post hp
  rw [← hh00] at hp
  show Ev D 1 mX12_trace 0 [some (.ref (82)), some (.int (i))] [] h 0 0 post
  refine e_iload_n dX12_trace_0 rfl ?_
  refine e_iconst (nI (0)) dX12_trace_1 (by decide) ?_
  refine e_aload_n dX12_trace_2 rfl ?_
  refine e_get dX12_trace_3 fl_X12_299_12 hR.1 rfl ?_
  refine e_top (nI (sT s).2) (hS.2.2.2.1) ?_
  refine e_iconst (nI (1)) dX12_trace_6 (by decide) ?_
  refine e_isub dX12_trace_7 ?_
  refine c_S3iR (N := mX12_within) dX12_trace_8 ls_X12_76 mo_X12_within  (Nat.le_of_ble_eq_true rfl) (Nat.le_of_ble_eq_true rfl) (by decide) (s_within D ((i)) (nI (0)) ((nI ((sT s).2) - nI (1)))) ?_
  refine e_if_eqB 23 dX12_trace_11 (by decide) (fun hcq11 => ?_) (fun hcq11 => ?_)
  · refine e_aload_n dX12_trace_23 rfl ?_
    refine e_ldc dX12_trace_24 w_1340 ?_
    refine c_V1i (nc := 0) (ns := 0) (mc := 0) (ms := 0) (N := mX12_finding) dX12_trace_26 lv_X12_90 mo_X12_finding hR.cn (Nat.le_of_ble_eq_true rfl) (Nat.le_of_ble_eq_true rfl) (by decide) (s_finding D hR 2 (by decide) (((-1000000002))) fE2) (fun h hP => ?_)
    obtain ⟨hR, hF1⟩ := hP
    have hF := hF.trans hF1
    have hS := hS.er 2
    refine e_top (lowE 2) lE2 ?_
    have e9 : f_trace s i = er 2 (s) := by rw [f_trace, if_neg hcq11]
    rw [e9] at hp
    exact e_iret dX12_trace_29 rfl (hp _ ⟨⟨_, _, hR, hS⟩, hF⟩)
  · obtain ⟨hn_i, hl_i⟩ := isN hcq11 rfl (by have := hS.2.2.2.2; omega)
    refine e_aload_n dX12_trace_14 rfl ?_
    refine e_get dX12_trace_15 fl_X12_60_12 hR.1 rfl ?_
    refine e_iload_n dX12_trace_18 rfl ?_
    refine e_top (nI (tn i)) (hn_i) ?_
    have h40 := hS.2.2.2.2
    refine e_ild (tn i) (((sT s).1 (tn i))) dX12_trace_19 (hR.2.2.1 13 (by decide) (by decide) (by decide)) rfl (by show _ < 40; omega) (by decide) (by rw [hS.1.2.2.1]) ?_
    refine e_goto 29 dX12_trace_20 (by decide) ?_
    have e9 : f_trace s i = (((sT s).1 (tn i)), s) := by rw [f_trace, if_pos hcq11]
    rw [e9] at hp
    exact e_iret dX12_trace_29 rfl (hp _ ⟨⟨_, _, hR, hS⟩, hF⟩)
set_option maxRecDepth 20000 in
theorem rp_put (D : En) {h : AH} {s : SS} (hI : INV s) (hRS : RefS h s) (g : Int32) (i : Int32) (x : Int32) : Sp D 2 mX12_put_ [.ref (82), .int (g), .int (i), .int (x)] h 0 0 (some (.int (f_put s g i x).1)) (fun h' => RefS h' (f_put s g i x).2 ∧ FrR h h') := by
  obtain ⟨σ, τ, hR, hS⟩ := hRS
  have hY := hI.1.1
  have hnv := hY.2.1
  have htc10 := hY.2.2.2.1
  obtain ⟨h00, hh00⟩ : ∃ z, z = h := ⟨_, rfl⟩
  have hF : FrR h00 h := by rw [hh00]; exact FrR.rf
  intro post hp
  rw [← hh00] at hp
  show Ev D 2 mX12_put_ 0 [some (.ref (82)), some (.int (g)), some (.int (i)), some (.int (x))] [] h 0 0 post
  refine e_iload_n dX12_put__0 rfl ?_
  refine c_S1iR (N := mX12_isSheet) dX12_put__1 ls_X12_116 mo_X12_isSheet  (Nat.le_of_ble_eq_true rfl) (Nat.le_of_ble_eq_true rfl) (by decide) (s_isSheet D ((g))) ?_
  refine e_if_neB 14 dX12_put__4 (by decide) (fun hcq4 => ?_) (fun hcq4 => ?_)
  · obtain ⟨hn_g, hg_g, hl_g⟩ := wiN hcq4 (by decide) (by decide)
    refine e_aload_n dX12_put__14 rfl ?_
    refine e_get dX12_put__15 fl_X12_63_12 hR.1 rfl ?_
    refine e_iload_n dX12_put__18 rfl ?_
    refine e_top (nI (tn g)) (hn_g) ?_
    refine e_ild (tn g) ((sW s (tn g))) dX12_put__19 (hR.2.2.1 14 (by decide) (by decide) (by decide)) rfl (by show _ < 4; omega) (by decide) (by rw [hS.1.2.2.2.1]) ?_
    refine e_if_ne 30 dX12_put__20 (by decide) (fun hcq20 => ?_) (fun hcq20 => ?_)
    · have hz9 := (hI.2.2 _ (show tn g < 4 by omega)).2
      refine e_iload_n dX12_put__30 rfl ?_
      refine e_iconst (nI (0)) dX12_put__31 (by decide) ?_
      refine e_aload_n dX12_put__32 rfl ?_
      refine e_get dX12_put__33 fl_X12_66_12 hR.1 rfl ?_
      refine e_iload_n dX12_put__36 rfl ?_
      refine e_top (nI (tn g)) (hn_g) ?_
      refine e_ild (tn g) (nI (tn (sZ s (tn g)))) dX12_put__37 (hR.2.2.1 15 (by decide) (by decide) (by decide)) rfl (by show _ < 4; omega) (by decide) (by rw [hS.1.2.2.2.2.1]; exact (hI.2.2 _ (by omega)).1) ?_
      refine e_iconst (nI (1)) dX12_put__38 (by decide) ?_
      refine e_isub dX12_put__39 ?_
      refine c_S3iR (N := mX12_within) dX12_put__40 ls_X12_76 mo_X12_within  (Nat.le_of_ble_eq_true rfl) (Nat.le_of_ble_eq_true rfl) (by decide) (s_within D ((i)) (nI (0)) ((nI (tn (sZ s (tn g))) - nI (1)))) ?_
      refine e_if_neB 53 dX12_put__43 (by decide) (fun hcq43 => ?_) (fun hcq43 => ?_)
      · obtain ⟨hn_i, hl_i⟩ := isN hcq43 rfl (by omega)
        refine e_aload_n dX12_put__53 rfl ?_
        refine e_get dX12_put__54 fl_X12_69_12 hR.1 rfl ?_
        refine e_bipush (nI (40)) dX12_put__57 (by decide) ?_
        refine e_iload_n dX12_put__59 rfl ?_
        refine e_top (nI (tn g)) (hn_g) ?_
        refine e_imulN dX12_put__60 ?_
        refine e_iload_n dX12_put__61 rfl ?_
        refine e_top (nI (tn i)) (hn_i) ?_
        refine e_iaddN dX12_put__62 ?_
        refine e_aload_n dX12_put__63 rfl ?_
        refine e_get dX12_put__64 fl_X12_63_12 hR.1 rfl ?_
        refine e_iload_n dX12_put__67 rfl ?_
        refine e_top (nI (tn g)) (hn_g) ?_
        refine e_ild (tn g) ((sW s (tn g))) dX12_put__68 (hR.2.2.1 14 (by decide) (by decide) (by decide)) rfl (by show _ < 4; omega) (by decide) (by rw [hS.1.2.2.2.1]) ?_
        refine e_bipush (nI (8)) dX12_put__69 (by decide) ?_
        refine e_icmp_ne 79 dX12_put__71 (by decide) (fun hcq71 => ?_) (fun hcq71 => ?_)
        · refine e_aload_n dX12_put__79 rfl ?_
          refine e_get dX12_put__80 fl_X12_63_12 hR.1 rfl ?_
          refine e_iload_n dX12_put__83 rfl ?_
          refine e_top (nI (tn g)) (hn_g) ?_
          refine e_ild (tn g) ((sW s (tn g))) dX12_put__84 (hR.2.2.1 14 (by decide) (by decide) (by decide)) rfl (by show _ < 4; omega) (by decide) (by rw [hS.1.2.2.2.1]) ?_
          refine e_bipush (nI (16)) dX12_put__85 (by decide) ?_
          refine e_icmp_ne 95 dX12_put__87 (by decide) (fun hcq87 => ?_) (fun hcq87 => ?_)
          · refine e_iload_n dX12_put__95 rfl ?_
            refine r_st 16 ((40 * (tn g)) + (tn i)) dX12_put__96 hR hF rfl (by decide) rfl (by show _ < 160; omega) (fun h hR hF => ?_)
            have hS := hS.q ((40 * (tn g)) + (tn i)) ((x))
            refine e_iconst (nI (1)) dX12_put__97 (by decide) ?_
            have e9 : f_put s g i x = (nI (1), wH s (sW s) (sZ s) (upd (sQ s) ((40 * (tn g)) + (tn i)) ((x)))) := by rw [f_put, if_pos hcq4, if_neg hcq20, if_pos hcq43, narW, if_neg hcq71, if_neg hcq87]
            rw [e9] at hp
            exact e_iret dX12_put__98 rfl (hp _ ⟨⟨_, _, hR, hS⟩, hF⟩)
          · refine e_iload_n dX12_put__90 rfl ?_
            refine e_i2s dX12_put__91 ?_
            refine e_goto 96 dX12_put__92 (by decide) ?_
            refine r_st 16 ((40 * (tn g)) + (tn i)) dX12_put__96 hR hF rfl (by decide) rfl (by show _ < 160; omega) (fun h hR hF => ?_)
            have hS := hS.q ((40 * (tn g)) + (tn i)) ((((x)).toInt16.toInt32))
            refine e_iconst (nI (1)) dX12_put__97 (by decide) ?_
            have e9 : f_put s g i x = (nI (1), wH s (sW s) (sZ s) (upd (sQ s) ((40 * (tn g)) + (tn i)) ((((x)).toInt16.toInt32)))) := by rw [f_put, if_pos hcq4, if_neg hcq20, if_pos hcq43, narW, if_neg hcq71, if_pos hcq87]
            rw [e9] at hp
            exact e_iret dX12_put__98 rfl (hp _ ⟨⟨_, _, hR, hS⟩, hF⟩)
        · refine e_iload_n dX12_put__74 rfl ?_
          refine e_i2b dX12_put__75 ?_
          refine e_goto 96 dX12_put__76 (by decide) ?_
          refine r_st 16 ((40 * (tn g)) + (tn i)) dX12_put__96 hR hF rfl (by decide) rfl (by show _ < 160; omega) (fun h hR hF => ?_)
          have hS := hS.q ((40 * (tn g)) + (tn i)) ((((x)).toInt8.toInt32))
          refine e_iconst (nI (1)) dX12_put__97 (by decide) ?_
          have e9 : f_put s g i x = (nI (1), wH s (sW s) (sZ s) (upd (sQ s) ((40 * (tn g)) + (tn i)) ((((x)).toInt8.toInt32)))) := by rw [f_put, if_pos hcq4, if_neg hcq20, if_pos hcq43, narW, if_pos hcq71]
          rw [e9] at hp
          exact e_iret dX12_put__98 rfl (hp _ ⟨⟨_, _, hR, hS⟩, hF⟩)
      · refine e_aload_n dX12_put__46 rfl ?_
        refine e_ldc dX12_put__47 w_1294 ?_
        refine c_V1i (nc := 0) (ns := 0) (mc := 0) (ms := 0) (N := mX12_finding) dX12_put__49 lv_X12_90 mo_X12_finding hR.cn (Nat.le_of_ble_eq_true rfl) (Nat.le_of_ble_eq_true rfl) (by decide) (s_finding D hR 1 (by decide) (((-1000000001))) fE1) (fun h hP => ?_)
        obtain ⟨hR, hF1⟩ := hP
        have hF := hF.trans hF1
        have hS := hS.er 1
        refine e_top (lowE 1) lE1 ?_
        have e9 : f_put s g i x = er 1 (s) := by rw [f_put, if_pos hcq4, if_neg hcq20, if_neg hcq43]
        rw [e9] at hp
        exact e_iret dX12_put__52 rfl (hp _ ⟨⟨_, _, hR, hS⟩, hF⟩)
    · refine e_aload_n dX12_put__23 rfl ?_
      refine e_ldc dX12_put__24 w_1340 ?_
      refine c_V1i (nc := 0) (ns := 0) (mc := 0) (ms := 0) (N := mX12_finding) dX12_put__26 lv_X12_90 mo_X12_finding hR.cn (Nat.le_of_ble_eq_true rfl) (Nat.le_of_ble_eq_true rfl) (by decide) (s_finding D hR 2 (by decide) (((-1000000002))) fE2) (fun h hP => ?_)
      obtain ⟨hR, hF1⟩ := hP
      have hF := hF.trans hF1
      have hS := hS.er 2
      refine e_top (lowE 2) lE2 ?_
      have e9 : f_put s g i x = er 2 (s) := by rw [f_put, if_pos hcq4, if_pos hcq20]
      rw [e9] at hp
      exact e_iret dX12_put__29 rfl (hp _ ⟨⟨_, _, hR, hS⟩, hF⟩)
  · refine e_aload_n dX12_put__7 rfl ?_
    refine e_ldc dX12_put__8 w_1294 ?_
    refine c_V1i (nc := 0) (ns := 0) (mc := 0) (ms := 0) (N := mX12_finding) dX12_put__10 lv_X12_90 mo_X12_finding hR.cn (Nat.le_of_ble_eq_true rfl) (Nat.le_of_ble_eq_true rfl) (by decide) (s_finding D hR 1 (by decide) (((-1000000001))) fE1) (fun h hP => ?_)
    obtain ⟨hR, hF1⟩ := hP
    have hF := hF.trans hF1
    have hS := hS.er 1
    refine e_top (lowE 1) lE1 ?_
    have e9 : f_put s g i x = er 1 (s) := by rw [f_put, if_neg hcq4]
    rw [e9] at hp
    exact e_iret dX12_put__13 rfl (hp _ ⟨⟨_, _, hR, hS⟩, hF⟩)
set_option maxRecDepth 20000 in
theorem rp_restore (D : En) {h : AH} {s : SS} (hI : INV s) (hRS : RefS h s)  : Sp D 1 mX12_restore [.ref (82)] h 0 0 (some (.int (f_restore s).1)) (fun h' => RefS h' (f_restore s).2 ∧ FrR h h') := by
  obtain ⟨σ, τ, hR, hS⟩ := hRS
  have hY := hI.1.1
  have hnv := hY.2.1
  have htc10 := hY.2.2.2.1
  obtain ⟨h00, hh00⟩ : ∃ z, z = h := ⟨_, rfl⟩
  have hF : FrR h00 h := by rw [hh00]; exact FrR.rf
  intro post hp
  rw [← hh00] at hp
  show Ev D 1 mX12_restore 0 [some (.ref (82))] [] h 0 0 post
  refine e_aload_n dX12_restore_0 rfl ?_
  refine e_get dX12_restore_1 fl_X12_320_12 hR.1 rfl ?_
  refine e_top (sI s) (hS.2.2.1) ?_
  refine e_if_ne 14 dX12_restore_4 (by decide) (fun hcq4 => ?_) (fun hcq4 => ?_)
  · refine e_aload_n dX12_restore_14 rfl ?_
    refine e_get dX12_restore_15 fl_X12_13_12 hR.1 rfl ?_
    refine e_aload_n dX12_restore_18 rfl ?_
    refine e_get dX12_restore_19 fl_X12_9_12 hR.1 rfl ?_
    refine c_S2v (nc := 0) (ns := 0) (mc := 0) (ms := 0) (N := mX12_copy) dX12_restore_22 ls_X12_277 mo_X12_copy  (Nat.le_of_ble_eq_true rfl) (Nat.le_of_ble_eq_true rfl) (by decide) (s_copyKN D hR) (fun h hP => ?_)
    obtain ⟨hR, hF1⟩ := hP
    have hF := hF.trans hF1
    rw [hS.1.1] at hR
    refine e_aload_n dX12_restore_25 rfl ?_
    refine e_get dX12_restore_26 fl_X12_9_12 hR.1 rfl ?_
    refine e_iconst (nI (0)) dX12_restore_29 (by decide) ?_
    refine e_ild (0) (((sK s) (0))) dX12_restore_30 hR.2.1 rfl (by omega) (by decide) rfl ?_
    have e9 : f_restore s = (((sK s) (0)), wN s (sK s)) := by rw [f_restore, if_neg hcq4]
    rw [e9] at hp
    exact e_iret dX12_restore_31 rfl (hp _ ⟨⟨_, _, hR, hS⟩, hF⟩)
  · refine e_aload_n dX12_restore_7 rfl ?_
    refine e_ldc dX12_restore_8 w_1340 ?_
    refine c_V1i (nc := 0) (ns := 0) (mc := 0) (ms := 0) (N := mX12_finding) dX12_restore_10 lv_X12_90 mo_X12_finding hR.cn (Nat.le_of_ble_eq_true rfl) (Nat.le_of_ble_eq_true rfl) (by decide) (s_finding D hR 2 (by decide) (((-1000000002))) fE2) (fun h hP => ?_)
    obtain ⟨hR, hF1⟩ := hP
    have hF := hF.trans hF1
    have hS := hS.er 2
    refine e_top (lowE 2) lE2 ?_
    have e9 : f_restore s = er 2 (s) := by rw [f_restore, if_pos hcq4]
    rw [e9] at hp
    exact e_iret dX12_restore_13 rfl (hp _ ⟨⟨_, _, hR, hS⟩, hF⟩)
set_option maxRecDepth 20000 in
theorem rp_image (D : En) {h : AH} {s : SS} (hI : INV s) (hRS : RefS h s)  : Sp D 1 mX12_image [.ref (82)] h 0 0 (some (.int (f_image s).1)) (fun h' => RefS h' (f_image s).2 ∧ FrR h h') := by
  obtain ⟨σ, τ, hR, hS⟩ := hRS
  have hY := hI.1.1
  have hnv := hY.2.1
  have htc10 := hY.2.2.2.1
  obtain ⟨h00, hh00⟩ : ∃ z, z = h := ⟨_, rfl⟩
  have hF : FrR h00 h := by rw [hh00]; exact FrR.rf
  intro post hp
  rw [← hh00] at hp
  show Ev D 1 mX12_image 0 [some (.ref (82))] [] h 0 0 post
  refine e_aload_n dX12_image_0 rfl ?_
  refine e_get dX12_image_1 fl_X12_9_12 hR.1 rfl ?_
  refine e_aload_n dX12_image_4 rfl ?_
  refine e_get dX12_image_5 fl_X12_13_12 hR.1 rfl ?_
  refine c_S2v (nc := 0) (ns := 0) (mc := 0) (ms := 0) (N := mX12_copy) dX12_image_8 ls_X12_277 mo_X12_copy  (Nat.le_of_ble_eq_true rfl) (Nat.le_of_ble_eq_true rfl) (by decide) (s_copyNK D hR) (fun h hP => ?_)
  obtain ⟨hR, hF1⟩ := hP
  have hF := hF.trans hF1
  refine e_aload_n dX12_image_11 rfl ?_
  refine e_dup dX12_image_12 rfl ?_
  refine e_get dX12_image_13 fl_X12_320_12 hR.1 rfl ?_
  refine e_top (sI s) (hS.2.2.1) ?_
  refine e_iconst (nI (1)) dX12_image_16 (by decide) ?_
  refine e_iadd dX12_image_17 ?_
  refine r_put (upd τ 0 (((sI s) + nI (1)))) dX12_image_18 fl_X12_320_12 hR hF rfl (by decide) rfl rfl rfl (fun h hR hF => ?_)
  have hS := hS.k (sI s + nI (1))
  refine e_aload_n dX12_image_21 rfl ?_
  refine e_get dX12_image_22 fl_X12_320_12 hR.1 rfl ?_
  refine e_top (sI s + nI (1)) (hS.2.2.1) ?_
  have e9 : f_image s = ((sI s + nI (1)), wK s (sN s) (sI s + nI (1))) := rfl
  rw [e9] at hp
  exact e_iret dX12_image_25 rfl (hp _ ⟨⟨_, _, hR, hS⟩, hF⟩)
set_option maxRecDepth 20000 in
theorem rp_tell (D : En) {h : AH} {s : SS} (hI : INV s) (hRS : RefS h s) (x : Int32) : Sp D 1 mX12_tell [.ref (82), .int (x)] h 0 0 (some (.int (f_tell s x).1)) (fun h' => RefS h' (f_tell s x).2 ∧ FrR h h') := by
  obtain ⟨σ, τ, hR, hS⟩ := hRS
  have hY := hI.1.1
  have hnv := hY.2.1
  have htc10 := hY.2.2.2.1
  obtain ⟨h00, hh00⟩ : ∃ z, z = h := ⟨_, rfl⟩
  have hF : FrR h00 h := by rw [hh00]; exact FrR.rf
  intro post hp
  rw [← hh00] at hp
  show Ev D 1 mX12_tell 0 [some (.ref (82)), some (.int (x))] [] h 0 0 post
  have hw20 := hI.1.2.2.1.2
  refine e_aload_n dX12_tell_0 rfl ?_
  refine e_get dX12_tell_1 fl_X12_9_12 hR.1 rfl ?_
  refine e_iconst (nI (4)) dX12_tell_4 (by decide) ?_
  refine e_ild (4) (nI (wlN (sN s))) dX12_tell_5 hR.2.1 rfl (by omega) (by decide) hI.1.2.2.1.1 ?_
  refine e_bipush (nI (20)) dX12_tell_6 (by decide) ?_
  refine e_icmp_neN 18 dX12_tell_8 (by decide) (by omega) (by omega) (fun hcq8 => ?_) (fun hcq8 => ?_)
  · refine e_aload_n dX12_tell_18 rfl ?_
    refine e_get dX12_tell_19 fl_X12_9_12 hR.1 rfl ?_
    refine e_sipush (nI (232)) dX12_tell_22 (by decide) ?_
    refine e_aload_n dX12_tell_25 rfl ?_
    refine e_get dX12_tell_26 fl_X12_9_12 hR.1 rfl ?_
    refine e_iconst (nI (4)) dX12_tell_29 (by decide) ?_
    refine e_ild (4) (nI (wlN (sN s))) dX12_tell_30 hR.2.1 rfl (by omega) (by decide) hI.1.2.2.1.1 ?_
    refine e_iaddN dX12_tell_31 ?_
    refine e_iload_n dX12_tell_32 rfl ?_
    refine r_stN (232 + (wlN (sN s))) dX12_tell_33 hR hF rfl (by omega) (fun h hR hF => ?_)
    refine e_aload_n dX12_tell_34 rfl ?_
    refine e_get dX12_tell_35 fl_X12_9_12 hR.1 rfl ?_
    refine e_iconst (nI (4)) dX12_tell_38 (by decide) ?_
    refine e_dup2 dX12_tell_39 rfl rfl ?_
    refine e_ild (4) (nI (wlN (sN s))) dX12_tell_40 hR.2.1 rfl (by omega) (by decide) ((pk_un (by omega)).trans hI.1.2.2.1.1) ?_
    refine e_iconst (nI (1)) dX12_tell_41 (by decide) ?_
    refine e_iaddN dX12_tell_42 ?_
    refine r_stN (4) dX12_tell_43 hR hF rfl (by omega) (fun h hR hF => ?_)
    refine e_aload_n dX12_tell_44 rfl ?_
    refine e_get dX12_tell_45 fl_X12_9_12 hR.1 rfl ?_
    refine e_iconst (nI (4)) dX12_tell_48 (by decide) ?_
    refine e_ild (4) (nI (wlN (sN s) + 1)) dX12_tell_49 hR.2.1 rfl (by omega) (by decide) pk_us ?_
    have e9 : f_tell s x = (nI (wlN (sN s) + 1), wN s (upd (upd (sN s) (232 + (wlN (sN s))) ((x))) (4) (nI ((wlN (sN s)) + 1)))) := by rw [f_tell, if_neg hcq8]
    rw [e9] at hp
    exact e_iret dX12_tell_50 rfl (hp _ ⟨⟨_, _, hR, hS⟩, hF⟩)
  · refine e_aload_n dX12_tell_11 rfl ?_
    refine e_ldc dX12_tell_12 w_1300 ?_
    refine c_V1i (nc := 0) (ns := 0) (mc := 0) (ms := 0) (N := mX12_finding) dX12_tell_14 lv_X12_90 mo_X12_finding hR.cn (Nat.le_of_ble_eq_true rfl) (Nat.le_of_ble_eq_true rfl) (by decide) (s_finding D hR 4 (by decide) (((-1000000004))) fE4) (fun h hP => ?_)
    obtain ⟨hR, hF1⟩ := hP
    have hF := hF.trans hF1
    have hS := hS.er 4
    refine e_top (lowE 4) lE4 ?_
    have e9 : f_tell s x = er 4 (s) := by rw [f_tell, if_pos hcq8]
    rw [e9] at hp
    exact e_iret dX12_tell_17 rfl (hp _ ⟨⟨_, _, hR, hS⟩, hF⟩)
set_option maxRecDepth 20000 in
theorem rp_voice (D : En) {h : AH} {s : SS} (hI : INV s) (hRS : RefS h s) (t : Int32) (a : Int32) (x : Int32) : Sp D 22 mX12_voice [.ref (82), .int (t), .int (a), .int (x)] h 0 0 (some (.int (f_voice s t a x).1)) (fun h' => RefS h' (f_voice s t a x).2 ∧ FrR h h') := by
  obtain ⟨σ, τ, hR, hS⟩ := hRS
  have hY := hI.1.1
  have hnv := hY.2.1
  have htc10 := hY.2.2.2.1
  obtain ⟨h00, hh00⟩ : ∃ z, z = h := ⟨_, rfl⟩
  have hF : FrR h00 h := by rw [hh00]; exact FrR.rf
  intro post hp
  rw [← hh00] at hp
  show Ev D 22 mX12_voice 0 [some (.ref (82)), some (.int (t)), some (.int (a)), some (.int (x))] [] h 0 0 post
  refine e_aload_n dX12_voice_0 rfl ?_
  refine e_iload_n dX12_voice_1 rfl ?_
  refine e_iconst (nI (2)) dX12_voice_2 (by decide) ?_
  refine c_V2iR (N := mX12_is) dX12_voice_3 lv_X12_103 mo_X12_is hR.cn (Nat.le_of_ble_eq_true rfl) (Nat.le_of_ble_eq_true rfl) (by decide) (s_is D hR ((t)) (2) (by omega)) ?_
  refine e_if_eqB 18 dX12_voice_6 (by decide) (fun hcq6 => ?_) (fun hcq6 => ?_)
  · refine e_aload_n dX12_voice_18 rfl ?_
    refine e_ldc dX12_voice_19 w_1294 ?_
    refine c_V1i (nc := 0) (ns := 0) (mc := 0) (ms := 0) (N := mX12_finding) dX12_voice_21 lv_X12_90 mo_X12_finding hR.cn (Nat.le_of_ble_eq_true rfl) (Nat.le_of_ble_eq_true rfl) (by decide) (s_finding D hR 1 (by decide) (((-1000000001))) fE1) (fun h hP => ?_)
    obtain ⟨hR, hF1⟩ := hP
    have hF := hF.trans hF1
    have hS := hS.er 1
    refine e_top (lowE 1) lE1 ?_
    have e9 : f_voice s t a x = er 1 (s) := by rw [f_voice, if_neg hcq6]
    rw [e9] at hp
    exact e_iret dX12_voice_24 rfl (hp _ ⟨⟨_, _, hR, hS⟩, hF⟩)
  · obtain ⟨hn_t, hl_t⟩ := isN hcq6 hY.2.2.1 (by omega)
    refine e_iload_n dX12_voice_9 rfl ?_
    refine e_iconst (nI (0)) dX12_voice_10 (by decide) ?_
    refine e_iconst (nI (3)) dX12_voice_11 (by decide) ?_
    refine c_S3iR (N := mX12_within) dX12_voice_12 ls_X12_76 mo_X12_within  (Nat.le_of_ble_eq_true rfl) (Nat.le_of_ble_eq_true rfl) (by decide) (s_within D ((a)) (nI (0)) (nI (3))) ?_
    refine e_if_neB 25 dX12_voice_15 (by decide) (fun hcq15 => ?_) (fun hcq15 => ?_)
    · obtain ⟨hn_a, hg_a, hl_a⟩ := wiN hcq15 (by decide) (by decide)
      refine e_aload_n dX12_voice_25 rfl ?_
      refine e_iconst (nI (0)) dX12_voice_26 (by decide) ?_
      refine r_put (upd τ 6 (nI (0))) dX12_voice_27 fl_X12_299_12 hR hF rfl (by decide) rfl rfl rfl (fun h hR hF => ?_)
      refine e_aload_n dX12_voice_30 rfl ?_
      refine e_iload_n dX12_voice_31 rfl ?_
      refine e_top (nI (tn t)) (hn_t) ?_
      refine r_put (upd (upd τ 6 (nI (0))) 7 (nI (tn t))) dX12_voice_32 fl_X12_302_12 hR hF rfl (by decide) rfl rfl rfl (fun h hR hF => ?_)
      have hk9 := hY.2.2.2.2.1 _ hl_t
      refine e_aload_n dX12_voice_35 rfl ?_
      refine e_iload_n dX12_voice_36 rfl ?_
      refine e_top (nI (tn a)) (hn_a) ?_
      refine e_iload_n dX12_voice_37 rfl ?_
      refine c_V2i (nc := 0) (ns := 0) (mc := 0) (ms := 0) (N := mX12_voiced) dX12_voice_38 lv_X12_317 mo_X12_voiced hR.cn (Nat.le_of_ble_eq_true rfl) (Nat.le_of_ble_eq_true rfl) (by decide) (s_voiced D (h0 := h00) (τ0 := τ) (σ0 := σ) (t := ((sT s).1, 0)) (show tn t < 10 by omega) hk9.1 ⟨_, by rw [show (((sT s).1, 0) : TS).1 = σ 13 from hS.1.2.2.1.symm, upSelf]; exact hR, hF, (pk_un (by decide)).trans pk_us, Nat.zero_le _, pk_us, fun i hi => (pk_un (by omega)).trans (pk_un (by omega))⟩ hk9.2.1 (tn a) (by omega) x) (fun h hP => ?_)
      obtain ⟨τ2, hR, hF, h6, h40, h7, hE⟩ := hP
      have hS := hS.t (τ' := τ2) (vcF (tn a) (kdN (sN s) (tn t)) (kdN (sN s) (tn t)) (nI (tn t)) (sN s (112 + 7 * tn t + 3)) (x) ((sT s).1, 0)).2 (hE 0 (by decide)) h6 h40
      have e9 : f_voice s t a x = (((vcF (tn a) (kdN (sN s) (tn t)) (kdN (sN s) (tn t)) (nI (tn t)) (sN s (112 + 7 * tn t + 3)) (x) ((sT s).1, 0)).1), wT s (vcF (tn a) (kdN (sN s) (tn t)) (kdN (sN s) (tn t)) (nI (tn t)) (sN s (112 + 7 * tn t + 3)) (x) ((sT s).1, 0)).2) := by rw [f_voice, if_pos hcq6, if_pos hcq15]
      rw [e9] at hp
      exact e_iret dX12_voice_41 rfl (hp _ ⟨⟨_, _, hR, hS⟩, hF⟩)
    · refine e_aload_n dX12_voice_18 rfl ?_
      refine e_ldc dX12_voice_19 w_1294 ?_
      refine c_V1i (nc := 0) (ns := 0) (mc := 0) (ms := 0) (N := mX12_finding) dX12_voice_21 lv_X12_90 mo_X12_finding hR.cn (Nat.le_of_ble_eq_true rfl) (Nat.le_of_ble_eq_true rfl) (by decide) (s_finding D hR 1 (by decide) (((-1000000001))) fE1) (fun h hP => ?_)
      obtain ⟨hR, hF1⟩ := hP
      have hF := hF.trans hF1
      have hS := hS.er 1
      refine e_top (lowE 1) lE1 ?_
      have e9 : f_voice s t a x = er 1 (s) := by rw [f_voice, if_pos hcq6, if_neg hcq15]
      rw [e9] at hp
      exact e_iret dX12_voice_24 rfl (hp _ ⟨⟨_, _, hR, hS⟩, hF⟩)
