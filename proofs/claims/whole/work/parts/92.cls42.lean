set_option maxRecDepth 20000 in
theorem vo_telling_X0_0 (D : En) {h : AH} {b t : Nat} {N : Nat → Int32} {tr : TS} (hb : h[b]? = some (.inr (0, tgF N t))) (h97 : 101 ≤ b) (hT : TR h tr) (x : Int32) : Sp D 5 mX0_telling [.ref b, .int x, .ref 71] h 0 0 (some (.int (tlX (nI t) (N (112 + 7 * t + 3)) x tr).1)) (fun h' => TR h' (tlX (nI t) (N (112 + 7 * t + 3)) x tr).2 ∧ FO 71 h h') := by
  obtain ⟨h00, hh00⟩ : ∃ z, z = h := ⟨_, rfl⟩
  have hF : FO 71 h00 h := by rw [hh00]; exact FO.rf
  intro post hp
  rw [← hh00] at hp
  show Ev D 5 mX0_telling 0 [some (.ref (b)), some (.int (x)), some (.ref (71))] [] h 0 0 post
  refine e_aload_n dX0_telling_0 rfl ?_
  refine e_bipush (nI (70)) dX0_telling_1 (by decide) ?_
  refine c_V1v (nc := 0) (ns := 0) (mc := 0) (ms := 0) (N := mX5_add) dX0_telling_3 lv_X0_27 mo_X5_add (hT.cn) (Nat.le_of_ble_eq_true rfl) (Nat.le_of_ble_eq_true rfl) (by decide) (k_tadd D hT (nI (70))) (fun h hP => ?_)
  obtain ⟨hT, hF1⟩ := hP
  have hF := hF.trans hF1
  have hb := (hF1.2 b (by omega) (by omega)).trans hb
  refine e_aload_n dX0_telling_6 rfl ?_
  refine e_iload_n dX0_telling_7 rfl ?_
  refine e_aload_n dX0_telling_8 rfl ?_
  refine c_O2i (nc := 0) (ns := 0) (mc := 0) (ms := 0) (x := (⟨"EmptyLand$Bridge", "resting", "(ILEmptyLand$Row;)I"⟩ : MethodName)) (owner := "EmptyLand$Thing") (C := RX0) (N := mX9_resting) dX0_telling_9 lo_X0_33_0 mo_X9_resting (Or.inl ⟨0, tgF N t, _, hb, rfl, rfl⟩) (Nat.le_of_ble_eq_true rfl) (Nat.le_of_ble_eq_true rfl) (by decide) (show Sp D 2 mX9_resting [.ref b, .int ((x)), .ref 71] h 0 0 (some (.int ((rsF 6 6 (nI t) (N (112 + 7 * t + 3)) ((x)) (bgV (nI (70)) tr))).1)) (fun h' => TR h' ((rsF 6 6 (nI t) (N (112 + 7 * t + 3)) ((x)) (bgV (nI (70)) tr))).2 ∧ FO 71 h h') from vo_resting_X9_0 D hb h97 hT ((x))) (fun h hP => ?_)
  obtain ⟨hT, hF1⟩ := hP
  have hF := hF.trans hF1
  have hb := (hF1.2 b (by omega) (by omega)).trans hb
  obtain ⟨A9, hA9⟩ : ∃ z, z = (rsF 6 6 (nI t) (N (112 + 7 * t + 3)) ((x)) (bgV (nI (70)) tr)) := ⟨_, rfl⟩
  rw [← hA9] at hT
  rw [← hA9]
  refine e_aload_n dX0_telling_12 rfl ?_
  refine e_iload_n dX0_telling_13 rfl ?_
  refine e_aload_n dX0_telling_14 rfl ?_
  refine c_U2i (nc := 0) (ns := 0) (mc := 0) (ms := 0) (N := mX1_telling) dX0_telling_15 lu_X0_39 mo_X1_telling hb rfl (Nat.le_of_ble_eq_true rfl) (Nat.le_of_ble_eq_true rfl) (by decide) (vo_telling_X1_0 D hb h97 hT ((x))) (fun h hP => ?_)
  obtain ⟨hT, hF1⟩ := hP
  have hF := hF.trans hF1
  have hb := (hF1.2 b (by omega) (by omega)).trans hb
  obtain ⟨B9, hB9⟩ : ∃ z, z = (tlS 6 (nI t) (N (112 + 7 * t + 3)) ((x)) (A9.2)) := ⟨_, rfl⟩
  rw [← hB9] at hT
  rw [← hB9]
  refine e_isub dX0_telling_18 ?_
  have e9 : tlX (nI t) (N (112 + 7 * t + 3)) x tr = (A9.1 - B9.1, B9.2) := by unfold tlX; rw [← hA9, ← hB9]
  rw [e9] at hp
  exact e_iret dX0_telling_19 rfl (hp _ ⟨hT, hF⟩)
theorem vv_X11_300 {D : En} {d : Nat} {M : Mt} {pc : Nat} {ls : List (Option Value)} {st : List Value} {h : AH} {post : Option Value → AH → Prop} {b t : Nat} {N : Nat → Int32} {tr : TS} {x : Int32} (hM : M.1.cls = RX11) (hd : decode M.2.1 pc = .ok (.invokevirtual 300, 3)) (hb : ThingAt h b t N) (hk : kdN N t < 7) (hT : TR h tr) (hr : (st.map fun v => v.category).sum ≤ 8) (hdd : 6 < d) (kk : ∀ h', TR h' (vcF 3 (kdN N t) (kdN N t) (nI t) (N (112 + 7 * t + 3)) x tr).2 → FO 71 h h' → Ev D d M (pc + 3) ls (.int (vcF 3 (kdN N t) (kdN N t) (nI t) (N (112 + 7 * t + 3)) x tr).1 :: st) h' 0 0 post) : Ev D d M pc ls (.ref 71 :: .int x :: .ref b :: st) h 0 0 post := by
  obtain ⟨h97, hb⟩ := hb
  rcases (show kdN N t = 0 ∨ kdN N t = 1 ∨ kdN N t = 2 ∨ kdN N t = 3 ∨ kdN N t = 4 ∨ kdN N t = 5 ∨ kdN N t = 6 by omega) with e9 | e9 | e9 | e9 | e9 | e9 | e9
  · rw [e9] at hb kk
    exact c_V2i (nc := 0) (ns := 0) (mc := 0) (ms := 0) (N := mX9_telling) hd (by rw [hM]; exact lv_X11_300) mo_X9_telling (Or.inl ⟨9, tgF N t, _, hb, rfl, rfl⟩) hr (Nat.le_of_ble_eq_true rfl) (Nat.lt_of_le_of_lt (by decide) hdd) (vo_telling_X9_9 D hb h97 hT x) (fun h2 hP => kk h2 hP.1 hP.2)
  · rw [e9] at hb kk
    exact c_O2i (nc := 0) (ns := 0) (mc := 0) (ms := 0) (x := yX9_telling) (owner := "EmptyLand$Thing") (C := RX7) (N := mX9_telling) hd (by rw [hM]; exact lo_X11_300_7) mo_X9_telling (Or.inl ⟨7, tgF N t, _, hb, rfl, rfl⟩) hr (Nat.le_of_ble_eq_true rfl) (Nat.lt_of_le_of_lt (by decide) hdd) (vo_telling_X9_7 D hb h97 hT x) (fun h2 hP => kk h2 hP.1 hP.2)
  · rw [e9] at hb kk
    exact c_O2i (nc := 0) (ns := 0) (mc := 0) (ms := 0) (x := yX9_telling) (owner := "EmptyLand$Thing") (C := RX8) (N := mX9_telling) hd (by rw [hM]; exact lo_X11_300_8) mo_X9_telling (Or.inl ⟨8, tgF N t, _, hb, rfl, rfl⟩) hr (Nat.le_of_ble_eq_true rfl) (Nat.lt_of_le_of_lt (by decide) hdd) (vo_telling_X9_8 D hb h97 hT x) (fun h2 hP => kk h2 hP.1 hP.2)
  · rw [e9] at hb kk
    exact c_O2i (nc := 0) (ns := 0) (mc := 0) (ms := 0) (x := yX9_telling) (owner := "EmptyLand$Thing") (C := RX3) (N := mX9_telling) hd (by rw [hM]; exact lo_X11_300_3) mo_X9_telling (Or.inl ⟨3, tgF N t, _, hb, rfl, rfl⟩) hr (Nat.le_of_ble_eq_true rfl) (Nat.lt_of_le_of_lt (by decide) hdd) (vo_telling_X9_3 D hb h97 hT x) (fun h2 hP => kk h2 hP.1 hP.2)
  · rw [e9] at hb kk
    exact c_O2i (nc := 0) (ns := 0) (mc := 0) (ms := 0) (x := yX9_telling) (owner := "EmptyLand$Thing") (C := RX1) (N := mX1_telling) hd (by rw [hM]; exact lo_X11_300_1) mo_X1_telling (Or.inl ⟨1, tgF N t, _, hb, rfl, rfl⟩) hr (Nat.le_of_ble_eq_true rfl) (Nat.lt_of_le_of_lt (by decide) hdd) (vo_telling_X1_1 D hb h97 hT x) (fun h2 hP => kk h2 hP.1 hP.2)
  · rw [e9] at hb kk
    exact c_O2i (nc := 0) (ns := 0) (mc := 0) (ms := 0) (x := yX9_telling) (owner := "EmptyLand$Thing") (C := RX10) (N := mX9_telling) hd (by rw [hM]; exact lo_X11_300_10) mo_X9_telling (Or.inl ⟨10, tgF N t, _, hb, rfl, rfl⟩) hr (Nat.le_of_ble_eq_true rfl) (Nat.lt_of_le_of_lt (by decide) hdd) (vo_telling_X9_10 D hb h97 hT x) (fun h2 hP => kk h2 hP.1 hP.2)
  · rw [e9] at hb kk
    rw [vc36] at kk
    exact c_O2i (nc := 0) (ns := 0) (mc := 0) (ms := 0) (x := yX9_telling) (owner := "EmptyLand$Thing") (C := RX0) (N := mX0_telling) hd (by rw [hM]; exact lo_X11_300_0) mo_X0_telling (Or.inl ⟨0, tgF N t, _, hb, rfl, rfl⟩) hr (Nat.le_of_ble_eq_true rfl) (Nat.lt_of_le_of_lt (by decide) hdd) (vo_telling_X0_0 D hb h97 hT x) (fun h2 hP => kk h2 hP.1 hP.2)
theorem ClsS.voice {h h' : AH} {s : SS} (hC : ClsS h s) {t : TS} (hT : TR h' t) (hF : FO 71 h h') : ClsS h' (wT s t) := by
  have hB : RB h' := by
    obtain ⟨f, b, r1, -, -⟩ := hT
    intro r fs hr
    by_cases e1 : r = 71
    · rw [e1] at hr; cases r1.1.symm.trans hr
    by_cases e2 : r = 72
    · rw [e2] at hr; cases r1.2.symm.trans hr
    rw [hF.2 r e1 e2] at hr
    obtain ⟨q1, ⟨gs, q2⟩, ⟨c, q3⟩, ⟨p, q4⟩⟩ := hC.rb r fs hr
    exact ⟨q1, ⟨gs, (hF.2 _ (by omega) (by omega)).trans q2⟩, ⟨c, (hF.2 _ (by omega) (by omega)).trans q3⟩, ⟨p, (hF.2 _ (by omega) (by omega)).trans q4⟩⟩
  exact hC.mv (fun x => x = 71 ∨ x = 72) (fun x c a b => Or.inl ((hF.2 x (by omega) (by omega)).trans b)) hB (by rw [hF.1]; exact Nat.le_refl _) (fun x a b => hF.2 x (by omega) (by omega)) (fun x a b => by omega) (Or.inl ⟨by omega, rfl⟩) (Or.inl ⟨fun x _ _ => by omega, rfl⟩) (Or.inl ⟨fun x _ _ => by omega, rfl, rfl⟩) (Or.inl (fun x _ _ => by omega)) (Or.inl (fun x _ _ => by omega)) (by omega) (Or.inr hT) (Or.inl ⟨by omega, rfl⟩) (Or.inl ⟨fun x _ _ => by omega, rfl, rfl, rfl⟩)
set_option maxRecDepth 20000 in
theorem cp_voice (D : En) {h : AH} {s : SS} (hI : INV s) (hC : ClsS h s) (t : Int32) (a : Int32) (x : Int32) : Sp D 7 mX11_voice [.ref (11), .int (t), .int (a), .int (x)] h 0 0 (some (.int (f_voice s t a x).1)) (fun h' => ClsS h' (f_voice s t a x).2 ∧ FrC h h') := by
  have hY := hI.1.1
  have hnv := hY.2.1
  have htc10 := hY.2.2.2.1
  obtain ⟨h00, hh00⟩ : ∃ z, z = h := ⟨_, rfl⟩
  have hF : FrC h00 h := by rw [hh00]; exact FrC.rf
  obtain ⟨hLo, ⟨f1, hr1, he1⟩, ⟨f2, hr2, he2⟩, ⟨f3, hr3, he3⟩, ⟨T4, hr4, he4⟩, ⟨f5, hr5, he5⟩, ⟨f6, hr6, he6⟩, ⟨f7, hr7, he7⟩, ⟨R8, hr8, he8⟩, ⟨f9, hr9⟩, ⟨f10, hr10⟩, ⟨fG, hrG, heG⟩⟩ := id hC.L.1
  intro post hp
  rw [← hh00] at hp
  show Ev D 7 mX11_voice 0 [some (.ref (11)), some (.int (t)), some (.int (a)), some (.int (x)), none] [] h 0 0 post
  obtain ⟨fT, bT, hRT, hT40, hTe⟩ := hC.tr
  refine e_aload_n dX11_voice_0 rfl ?_
  refine e_iload_n dX11_voice_1 rfl ?_
  refine c_V1iR (N := mX11_isThing) dX11_voice_2 lv_X11_131 mo_X11_isThing hC.cn (Nat.le_of_ble_eq_true rfl) (Nat.le_of_ble_eq_true rfl) (by decide) (c_isT D hC ((t))) ?_
  refine e_if_eqB 17 dX11_voice_5 (by decide) (fun hcq5 => ?_) (fun hcq5 => ?_)
  · refine e_aload_n dX11_voice_17 rfl ?_
    refine e_iconst (nI (1)) dX11_voice_18 (by decide) ?_
    refine c_V1i (nc := 0) (ns := 0) (mc := 0) (ms := 0) (N := mX11_error) dX11_voice_19 lv_X11_54 mo_X11_error hC.cn (Nat.le_of_ble_eq_true rfl) (Nat.le_of_ble_eq_true rfl) (by decide) (c_error D hC 1 (by decide)) (fun h hP => ?_)
    obtain ⟨hC, hF1⟩ := hP
    have hF := hF.trans hF1
    have e9 : f_voice s t a x = er 1 (s) := by rw [f_voice, if_neg hcq5]
    rw [e9] at hp
    exact e_iret dX11_voice_22 rfl (hp _ ⟨hC, hF⟩)
  · obtain ⟨hn_t, hl_t⟩ := isN hcq5 hY.2.2.1 (by omega)
    refine e_iload_n dX11_voice_8 rfl ?_
    refine e_iconst (nI (0)) dX11_voice_9 (by decide) ?_
    refine e_iconst (nI (3)) dX11_voice_10 (by decide) ?_
    refine c_S3iR (N := mX11_within) dX11_voice_11 ls_X11_72 mo_X11_within  (Nat.le_of_ble_eq_true rfl) (Nat.le_of_ble_eq_true rfl) (by decide) (c_within D ((a)) (nI (0)) (nI (3))) ?_
    refine e_if_neB 23 dX11_voice_14 (by decide) (fun hcq14 => ?_) (fun hcq14 => ?_)
    · obtain ⟨hn_a, hg_a, hl_a⟩ := wiN hcq14 (by decide) (by decide)
      refine e_aload_n dX11_voice_23 rfl ?_
      refine e_get dX11_voice_24 fl_X11_10_11 hC.1 rfl ?_
      refine e_get dX11_voice_27 fl_X11_58_2 hC.2.1.1 rfl ?_
      refine e_get dX11_voice_30 fl_X11_134_4 hC.2.1.2.1.1 rfl ?_
      refine e_iload_n dX11_voice_33 rfl ?_
      refine e_top (nI (tn t)) (hn_t) ?_
      obtain ⟨b34, hTb34, hb34⟩ := he4 (tn t) (by omega)
      refine e_ald (v := some b34) (tn t) dX11_voice_34 hr4 (Or.inl rfl) rfl (by omega) (by decide) hTb34 ?_
      refine e_astore dX11_voice_35 (by decide) ?_
      refine e_aload_n dX11_voice_37 rfl ?_
      refine e_get dX11_voice_38 fl_X11_42_11 hC.1 rfl ?_
      refine e_iconst (nI (0)) dX11_voice_41 (by decide) ?_
      refine e_put dX11_voice_42 fl_X11_93_5 ft_5 (fun q hq => Or.inl (by cases hq; rfl)) hRT.1 (by show _ < 3; decide) rfl rfl ?_
      have hT0 : TR _ (((sT s).1, 0) : TS) := ⟨fT, bT, ⟨getself (c := .inr (5, [.ref 72, .int (nI 0), .int bT])) hRT.1, getset hRT.2 (by decide)⟩, Nat.zero_le _, fun i hi => absurd hi (Nat.not_lt_zero i)⟩
      have hG0 := (FO.rf (a := 71) (h := h)).set (j := 71) (c := .inr (5, [.ref 72, .int (nI 0), .int bT])) (Or.inl rfl)
      have h11 := (hG0.2 11 (by decide) (by decide)).trans hC.1
      have hb34 : ThingAt _ b34 (tn t) (sN s) := ⟨hb34.1, (hG0.2 b34 (by have := hb34.1; omega) (by have := hb34.1; omega)).trans hb34.2⟩
      refine e_iload_n dX11_voice_45 rfl ?_
      refine e_top (nI (tn a)) (hn_a) ?_
      rcases (show tn a = 0 ∨ tn a = 1 ∨ tn a = 2 ∨ tn a = 3 by omega) with e0 | e0 | e0 | e0
      · refine e_top (nI 0) (by rw [e0]) ?_
        refine e_tableIn (off := 26) 72 dX11_voice_46 (by decide) (by decide) (by decide) (by decide) ?_
        refine e_aload dX11_voice_72 rfl ?_
        refine e_iload_n dX11_voice_74 rfl ?_
        refine e_aload_n dX11_voice_75 rfl ?_
        refine e_get dX11_voice_76 fl_X11_42_11 h11 rfl ?_
        refine vv_X11_290 rfl dX11_voice_79 hb34 (hY.2.2.2.2.1 _ (by omega)).2.1 hT0 (Nat.le_of_ble_eq_true rfl) (by decide) (fun h hT2 hF2 => ?_)
        have hG2 := hG0.trans hF2
        have hF := hF.trans (hG2.frc (by decide) (by decide))
        have hC := hC.voice hT2 hG2
        have e9 : f_voice s t a x = (((vcF 0 (kdN (sN s) (tn t)) (kdN (sN s) (tn t)) (nI (tn t)) (sN s (112 + 7 * tn t + 3)) x ((sT s).1, 0)).1), wT s (vcF 0 (kdN (sN s) (tn t)) (kdN (sN s) (tn t)) (nI (tn t)) (sN s (112 + 7 * tn t + 3)) x ((sT s).1, 0)).2) := by rw [f_voice, if_pos hcq5, if_pos hcq14, e0]
        rw [e9] at hp
        exact e_iret dX11_voice_82 rfl (hp _ ⟨hC, hF⟩)
      · refine e_top (nI 1) (by rw [e0]) ?_
        refine e_tableIn (off := 37) 83 dX11_voice_46 (by decide) (by decide) (by decide) (by decide) ?_
        refine e_aload dX11_voice_83 rfl ?_
        refine e_iload_n dX11_voice_85 rfl ?_
        refine e_aload_n dX11_voice_86 rfl ?_
        refine e_get dX11_voice_87 fl_X11_42_11 h11 rfl ?_
        refine vv_X11_294 rfl dX11_voice_90 hb34 (hY.2.2.2.2.1 _ (by omega)).2.1 hT0 (Nat.le_of_ble_eq_true rfl) (by decide) (fun h hT2 hF2 => ?_)
        have hG2 := hG0.trans hF2
        have hF := hF.trans (hG2.frc (by decide) (by decide))
        have hC := hC.voice hT2 hG2
        have e9 : f_voice s t a x = (((vcF 1 (kdN (sN s) (tn t)) (kdN (sN s) (tn t)) (nI (tn t)) (sN s (112 + 7 * tn t + 3)) x ((sT s).1, 0)).1), wT s (vcF 1 (kdN (sN s) (tn t)) (kdN (sN s) (tn t)) (nI (tn t)) (sN s (112 + 7 * tn t + 3)) x ((sT s).1, 0)).2) := by rw [f_voice, if_pos hcq5, if_pos hcq14, e0]
        rw [e9] at hp
        exact e_iret dX11_voice_93 rfl (hp _ ⟨hC, hF⟩)
      · refine e_top (nI 2) (by rw [e0]) ?_
        refine e_tableIn (off := 48) 94 dX11_voice_46 (by decide) (by decide) (by decide) (by decide) ?_
        refine e_aload dX11_voice_94 rfl ?_
        refine e_iload_n dX11_voice_96 rfl ?_
        refine e_aload_n dX11_voice_97 rfl ?_
        refine e_get dX11_voice_98 fl_X11_42_11 h11 rfl ?_
        refine vv_X11_297 rfl dX11_voice_101 hb34 (hY.2.2.2.2.1 _ (by omega)).2.1 hT0 (Nat.le_of_ble_eq_true rfl) (by decide) (fun h hT2 hF2 => ?_)
        have hG2 := hG0.trans hF2
        have hF := hF.trans (hG2.frc (by decide) (by decide))
        have hC := hC.voice hT2 hG2
        have e9 : f_voice s t a x = (((vcF 2 (kdN (sN s) (tn t)) (kdN (sN s) (tn t)) (nI (tn t)) (sN s (112 + 7 * tn t + 3)) x ((sT s).1, 0)).1), wT s (vcF 2 (kdN (sN s) (tn t)) (kdN (sN s) (tn t)) (nI (tn t)) (sN s (112 + 7 * tn t + 3)) x ((sT s).1, 0)).2) := by rw [f_voice, if_pos hcq5, if_pos hcq14, e0]
        rw [e9] at hp
        exact e_iret dX11_voice_104 rfl (hp _ ⟨hC, hF⟩)
      · refine e_top (nI 3) (by rw [e0]) ?_
        refine e_tableOut 105 dX11_voice_46 (by decide) (by decide) ?_
        refine e_aload dX11_voice_105 rfl ?_
        refine e_iload_n dX11_voice_107 rfl ?_
        refine e_aload_n dX11_voice_108 rfl ?_
        refine e_get dX11_voice_109 fl_X11_42_11 h11 rfl ?_
        refine vv_X11_300 rfl dX11_voice_112 hb34 (hY.2.2.2.2.1 _ (by omega)).2.1 hT0 (Nat.le_of_ble_eq_true rfl) (by decide) (fun h hT2 hF2 => ?_)
        have hG2 := hG0.trans hF2
        have hF := hF.trans (hG2.frc (by decide) (by decide))
        have hC := hC.voice hT2 hG2
        have e9 : f_voice s t a x = (((vcF 3 (kdN (sN s) (tn t)) (kdN (sN s) (tn t)) (nI (tn t)) (sN s (112 + 7 * tn t + 3)) x ((sT s).1, 0)).1), wT s (vcF 3 (kdN (sN s) (tn t)) (kdN (sN s) (tn t)) (nI (tn t)) (sN s (112 + 7 * tn t + 3)) x ((sT s).1, 0)).2) := by rw [f_voice, if_pos hcq5, if_pos hcq14, e0]
        rw [e9] at hp
        exact e_iret dX11_voice_115 rfl (hp _ ⟨hC, hF⟩)
    · refine e_aload_n dX11_voice_17 rfl ?_
      refine e_iconst (nI (1)) dX11_voice_18 (by decide) ?_
      refine c_V1i (nc := 0) (ns := 0) (mc := 0) (ms := 0) (N := mX11_error) dX11_voice_19 lv_X11_54 mo_X11_error hC.cn (Nat.le_of_ble_eq_true rfl) (Nat.le_of_ble_eq_true rfl) (by decide) (c_error D hC 1 (by decide)) (fun h hP => ?_)
      obtain ⟨hC, hF1⟩ := hP
      have hF := hF.trans hF1
      have e9 : f_voice s t a x = er 1 (s) := by rw [f_voice, if_pos hcq5, if_neg hcq14]
      rw [e9] at hp
      exact e_iret dX11_voice_22 rfl (hp _ ⟨hC, hF⟩)
