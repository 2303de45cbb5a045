theorem ClsS.tell {h h' : AH} {s : SS} (hC : ClsS h s) (hI : IN (sN s)) {x bW : Int32} {fW : Nat → Int32} (hWe : ∀ i, i < wlN (sN s) → fW i = sN s (232 + i)) (hR2 : RW h' 27 20 (upd fW (wlN (sN s)) x) (nI (wlN (sN s) + 1)) bW) (hF2 : FO 27 h h') (hw : wlN (sN s) < 20) : ClsS h' (wN s (upd (upd (sN s) (232 + wlN (sN s)) x) 4 (nI (wlN (sN s) + 1)))) := by
  have e4 : upd (upd (sN s) (232 + wlN (sN s)) x) 4 (nI (wlN (sN s) + 1)) 4 = nI (wlN (sN s) + 1) := pk_us
  have ew : wlN (upd (upd (sN s) (232 + wlN (sN s)) x) 4 (nI (wlN (sN s) + 1))) = wlN (sN s) + 1 := by
    show tn (upd (upd (sN s) (232 + wlN (sN s)) x) 4 (nI (wlN (sN s) + 1)) 4) = _
    rw [e4]; exact tn_nI (by omega)
  refine hC.wait hI hF2 ((KL.up (by omega)).tr (KL.up (by omega))) ((pk_un (by omega)).trans (pk_un (by omega))) ((pk_un (by omega)).trans (pk_un (by omega))) (fun i hi => (pk_un (by omega)).trans (pk_un (by omega))) ⟨_, bW, by rw [e4]; exact hR2, fun i hi => ?_⟩
  rw [ew] at hi
  rw [show upd (upd (sN s) (232 + wlN (sN s)) x) 4 (nI (wlN (sN s) + 1)) (232 + i) = upd (sN s) (232 + wlN (sN s)) x (232 + i) from pk_un (by omega)]
  by_cases e : i = wlN (sN s)
  · rw [e]; exact pk_us.trans pk_us.symm
  · exact (pk_un (by omega)).trans ((hWe i (by omega)).trans (pk_un (by omega)).symm)
theorem ClsS.image {h h' : AH} {s : SS} (hC : ClsS h s) (x : Int32) (hD : DeskAt h' 29 (sN s)) (hB : RB h') (hl : h'.length = h.length) (hU : ∀ y, (y < 29 ∨ 29 + 16 < y) → h'[y]? = h[y]?) : ClsS (h'.set 11 (.inr (11, clF x))) (wK s (sN s) x) := by
  have hS : ∀ y, y ≠ 11 → (h'.set 11 (.inr (11, clF x)))[y]? = h'[y]? := fun y e => List.getElem?_set_ne (fun q => e q.symm)
  have hD2 : DeskAt (h'.set 11 (.inr (11, clF x))) 29 (sN s) := hD.hg hB (HG.set (by decide)) (fun y a b => hS y (by omega))
  refine hC.mv (fun y => y = 11 ∨ (29 ≤ y ∧ y ≤ 45)) (fun y c a b => Or.inl ((hS y (by omega)).trans ((hU y (by omega)).trans b))) (hB.set (by decide) (fun fs e => by cases e)) (by rw [List.length_set, hl]; exact Nat.le_refl _) (fun y a b => (hS y (by omega)).trans (hU y (by omega))) (fun y a b => by omega) (Or.inr (getself ((hU 11 (by omega)).trans hC.1))) (Or.inl ⟨fun y _ _ => by omega, rfl⟩) (Or.inr ⟨hD2.shp, fun _ => hD2⟩) (Or.inl (fun y _ _ => by omega)) (Or.inl (fun y _ _ => by omega)) (by omega) (Or.inl ⟨by omega, by omega, rfl⟩) (Or.inl ⟨by omega, rfl⟩) (Or.inl ⟨fun y _ _ => by omega, rfl, rfl, rfl⟩)
theorem ClsS.restore {h h' : AH} {s : SS} (hC : ClsS h s) {N' : Nat → Int32} (hD : DeskAt h' 12 N') (hB : RB h') (hl : h'.length = h.length) (hU : ∀ y, (y < 12 ∨ 12 + 16 < y) → h'[y]? = h[y]?) : ClsS h' (wN s N') :=
  hC.mv (fun y => 12 ≤ y ∧ y ≤ 28) (fun y c a b => Or.inl ((hU y (by omega)).trans b)) hB (by rw [hl]; exact Nat.le_refl _) (fun y a b => hU y (by omega)) (fun y a b => by omega) (Or.inl ⟨by omega, rfl⟩) (Or.inr hD) (Or.inl ⟨fun y _ _ => by omega, rfl, rfl⟩) (Or.inl (fun y _ _ => by omega)) (Or.inl (fun y _ _ => by omega)) (by omega) (Or.inl ⟨by omega, by omega, rfl⟩) (Or.inl ⟨by omega, rfl⟩) (Or.inl ⟨fun y _ _ => by omega, rfl, rfl, rfl⟩)
set_option maxRecDepth 20000 in
theorem cp_trace (D : En) {h : AH} {s : SS} (hI : INV s) (hC : ClsS h s) (i : Int32) : Sp D 1 mX11_trace [.ref (11), .int (i)] h 0 0 (some (.int (f_trace s i).1)) (fun h' => ClsS h' (f_trace s i).2 ∧ FrC h h') := by
  have hY := hI.1.1
  have hnv := hY.2.1
  have htc10 := hY.2.2.2.1
  obtain ⟨h00, hh00⟩ : ∃ z, z = h := ⟨_, rfl⟩
  have hF : FrC h00 h := by rw [hh00]; exact FrC.rf
  intro post hp
  rw [← hh00] at hp
  show Ev D 1 mX11_trace 0 [some (.ref (11)), some (.int (i))] [] h 0 0 post
  obtain ⟨fT, bT, hRT, hT40, hTe⟩ := hC.tr
  refine e_aload_n dX11_trace_0 rfl ?_
  refine e_get dX11_trace_1 fl_X11_42_11 hC.1 rfl ?_
  refine e_iload_n dX11_trace_4 rfl ?_
  refine c_V1iR (N := mX5_has) dX11_trace_5 lv_X11_303 mo_X5_has hRT.cn (Nat.le_of_ble_eq_true rfl) (Nat.le_of_ble_eq_true rfl) (by decide) (k_rhas D hRT (by omega) (i)) ?_
  refine e_if_eqB 23 dX11_trace_8 (by decide) (fun hcq8 => ?_) (fun hcq8 => ?_)
  · refine e_aload_n dX11_trace_23 rfl ?_
    refine e_iconst (nI (2)) dX11_trace_24 (by decide) ?_
    refine c_V1i (nc := 0) (ns := 0) (mc := 0) (ms := 0) (N := mX11_error) dX11_trace_25 lv_X11_54 mo_X11_error hC.cn (Nat.le_of_ble_eq_true rfl) (Nat.le_of_ble_eq_true rfl) (by decide) (c_error D hC 2 (by decide)) (fun h hP => ?_)
    obtain ⟨hC, hF1⟩ := hP
    have hF := hF.trans hF1
    have e9 : f_trace s i = er 2 (s) := by rw [f_trace, if_neg hcq8]
    rw [e9] at hp
    exact e_iret dX11_trace_28 rfl (hp _ ⟨hC, hF⟩)
  · obtain ⟨hn_i, hl_i⟩ := isN hcq8 rfl (by omega)
    refine e_aload_n dX11_trace_11 rfl ?_
    refine e_get dX11_trace_12 fl_X11_42_11 hC.1 rfl ?_
    refine e_get dX11_trace_15 fl_X11_96_5 hRT.1 rfl ?_
    refine e_iload_n dX11_trace_18 rfl ?_
    refine e_top (nI (tn i)) (hn_i) ?_
    refine e_ild (tn i) (((sT s).1 (tn i))) dX11_trace_19 hRT.2 rfl (by omega) (by decide) (hTe _ (by omega)) ?_
    refine e_goto 28 dX11_trace_20 (by decide) ?_
    have e9 : f_trace s i = (((sT s).1 (tn i)), s) := by rw [f_trace, if_pos hcq8]
    rw [e9] at hp
    exact e_iret dX11_trace_28 rfl (hp _ ⟨hC, hF⟩)
set_option maxRecDepth 20000 in
theorem cp_tell (D : En) {h : AH} {s : SS} (hI : INV s) (hC : ClsS h s) (x : Int32) : Sp D 1 mX11_tell [.ref (11), .int (x)] h 0 0 (some (.int (f_tell s x).1)) (fun h' => ClsS h' (f_tell s x).2 ∧ FrC h h') := by
  have hY := hI.1.1
  have hnv := hY.2.1
  have htc10 := hY.2.2.2.1
  obtain ⟨h00, hh00⟩ : ∃ z, z = h := ⟨_, rfl⟩
  have hF : FrC h00 h := by rw [hh00]; exact FrC.rf
  intro post hp
  rw [← hh00] at hp
  show Ev D 1 mX11_tell 0 [some (.ref (11)), some (.int (x))] [] h 0 0 post
  obtain ⟨fW, bW, hRW, hWe⟩ := hC.2.1.2.2.2.2
  rw [hI.1.2.2.1.1] at hRW
  have hw20 := hI.1.2.2.1.2
  refine e_aload_n dX11_tell_0 rfl ?_
  refine e_get dX11_tell_1 fl_X11_10_11 hC.1 rfl ?_
  refine e_get dX11_tell_4 fl_X11_325_2 hC.2.1.1 rfl ?_
  refine e_get dX11_tell_7 fl_X11_93_5 hRW.1 rfl ?_
  refine e_bipush (nI (20)) dX11_tell_10 (by decide) ?_
  refine e_icmp_ltN 21 dX11_tell_12 (by decide) (by omega) (by omega) (fun hcq12 => ?_) (fun hcq12 => ?_)
  · refine e_aload_n dX11_tell_21 rfl ?_
    refine e_get dX11_tell_22 fl_X11_10_11 hC.1 rfl ?_
    refine e_get dX11_tell_25 fl_X11_325_2 hC.2.1.1 rfl ?_
    refine e_iload_n dX11_tell_28 rfl ?_
    refine c_V1v (nc := 0) (ns := 0) (mc := 0) (ms := 0) (N := mX5_add) dX11_tell_29 lv_X11_190 mo_X5_add hRW.cn (Nat.le_of_ble_eq_true rfl) (Nat.le_of_ble_eq_true rfl) (by decide) (k_radd D hRW (by decide) (by omega) ((x))) (fun h hP => ?_)
    obtain ⟨hR2, hF2⟩ := hP
    have hF := hF.trans (hF2.frc (by decide) (by decide))
    have hC := hC.tell hI.1 hWe hR2 hF2 (by omega)
    refine e_aload_n dX11_tell_32 rfl ?_
    refine e_get dX11_tell_33 fl_X11_10_11 hC.1 rfl ?_
    refine e_get dX11_tell_36 fl_X11_325_2 hC.2.1.1 rfl ?_
    refine e_get dX11_tell_39 fl_X11_93_5 hR2.1 rfl ?_
    have e9 : f_tell s x = (nI (wlN (sN s) + 1), wN s (upd (upd (sN s) (232 + wlN (sN s)) x) 4 (nI (wlN (sN s) + 1)))) := by rw [f_tell, if_neg (by omega)]
    rw [e9] at hp
    exact e_iret dX11_tell_42 rfl (hp _ ⟨hC, hF⟩)
  · refine e_aload_n dX11_tell_15 rfl ?_
    refine e_iconst (nI (4)) dX11_tell_16 (by decide) ?_
    refine c_V1i (nc := 0) (ns := 0) (mc := 0) (ms := 0) (N := mX11_error) dX11_tell_17 lv_X11_54 mo_X11_error hC.cn (Nat.le_of_ble_eq_true rfl) (Nat.le_of_ble_eq_true rfl) (by decide) (c_error D hC 4 (by decide)) (fun h hP => ?_)
    obtain ⟨hC, hF1⟩ := hP
    have hF := hF.trans hF1
    have e9 : f_tell s x = er 4 (s) := by rw [f_tell, if_pos (by omega)]
    rw [e9] at hp
    exact e_iret dX11_tell_20 rfl (hp _ ⟨hC, hF⟩)
set_option maxRecDepth 20000 in
theorem cp_image (D : En) {h : AH} {s : SS} (hI : INV s) (hC : ClsS h s)  : Sp D 3 mX11_image [.ref (11)] h 0 0 (some (.int (f_image s).1)) (fun h' => ClsS h' (f_image s).2 ∧ FrC h h') := by
  have hY := hI.1.1
  have hnv := hY.2.1
  have htc10 := hY.2.2.2.1
  obtain ⟨h00, hh00⟩ : ∃ z, z = h := ⟨_, rfl⟩
  have hF : FrC h00 h := by rw [hh00]; exact FrC.rf
  intro post hp
  rw [← hh00] at hp
  show Ev D 3 mX11_image 0 [some (.ref (11))] [] h 0 0 post
  refine e_aload_n dX11_image_0 rfl ?_
  refine e_get dX11_image_1 fl_X11_16_11 hC.1 rfl ?_
  refine e_aload_n dX11_image_4 rfl ?_
  refine e_get dX11_image_5 fl_X11_10_11 hC.1 rfl ?_
  refine c_V1v (nc := 0) (ns := 0) (mc := 0) (ms := 0) (N := mX2_copyFrom) dX11_image_8 lv_X11_322 mo_X2_copyFrom (Or.inl ⟨2, _, _, hC.ck.1.1.choose_spec, rfl, rfl⟩) (Nat.le_of_ble_eq_true rfl) (Nat.le_of_ble_eq_true rfl) (by decide) (k_dcopy D hC.ck.1 (by decide) hC.2.1 (by decide) hC.rb hI.1 (by decide)) (fun h hP => ?_)
  obtain ⟨hD2, hB2, hl2, hU2⟩ := hP
  have h11 := (hU2 11 (by omega)).trans hC.1
  refine e_aload_n dX11_image_11 rfl ?_
  refine e_dup dX11_image_12 rfl ?_
  refine e_get dX11_image_13 fl_X11_19_11 h11 rfl ?_
  refine e_iconst (nI (1)) dX11_image_16 (by decide) ?_
  refine e_iadd dX11_image_17 ?_
  refine e_put dX11_image_18 fl_X11_19_11 ft_11 (fun q hq => Or.inl (by cases hq; rfl)) h11 (by show _ < 8; decide) rfl rfl ?_
  have hF : FrC h00 _ := (hF.trans ⟨by rw [hl2]; exact Nat.le_refl _, fun y a => hU2 y (by omega)⟩).set (c := .inr (11, clF (sI s + nI 1))) (show 11 ≤ 11 by decide) (show 11 < 82 by decide)
  have hC := hC.image (sI s + nI 1) hD2 hB2 hl2 hU2
  refine e_aload_n dX11_image_21 rfl ?_
  refine e_get dX11_image_22 fl_X11_19_11 (getself h11) rfl ?_
  have e9 : f_image s = ((sI s + nI 1), wK s (sN s) (sI s + nI 1)) := rfl
  rw [e9] at hp
  exact e_iret dX11_image_25 rfl (hp _ ⟨hC, hF⟩)
set_option maxRecDepth 20000 in
theorem cp_restore (D : En) {h : AH} {s : SS} (hI : INV s) (hC : ClsS h s)  : Sp D 3 mX11_restore [.ref (11)] h 0 0 (some (.int (f_restore s).1)) (fun h' => ClsS h' (f_restore s).2 ∧ FrC h h') := by
  have hY := hI.1.1
  have hnv := hY.2.1
  have htc10 := hY.2.2.2.1
  obtain ⟨h00, hh00⟩ : ∃ z, z = h := ⟨_, rfl⟩
  have hF : FrC h00 h := by rw [hh00]; exact FrC.rf
  intro post hp
  rw [← hh00] at hp
  show Ev D 3 mX11_restore 0 [some (.ref (11))] [] h 0 0 post
  refine e_aload_n dX11_restore_0 rfl ?_
  refine e_get dX11_restore_1 fl_X11_19_11 hC.1 rfl ?_
  refine e_if_ne 13 dX11_restore_4 (by decide) (fun hcq4 => ?_) (fun hcq4 => ?_)
  · refine e_aload_n dX11_restore_13 rfl ?_
    refine e_get dX11_restore_14 fl_X11_10_11 hC.1 rfl ?_
    refine e_aload_n dX11_restore_17 rfl ?_
    refine e_get dX11_restore_18 fl_X11_16_11 hC.1 rfl ?_
    refine c_V1v (nc := 0) (ns := 0) (mc := 0) (ms := 0) (N := mX2_copyFrom) dX11_restore_21 lv_X11_322 mo_X2_copyFrom (Or.inl ⟨2, _, _, hC.2.1.1, rfl, rfl⟩) (Nat.le_of_ble_eq_true rfl) (Nat.le_of_ble_eq_true rfl) (by decide) (k_dcopy D hC.2.1.shp (by decide) (hC.ck.2 hcq4) (by decide) hC.rb (hI.2.1.resolve_left hcq4) (by decide)) (fun h hP => ?_)
    obtain ⟨hD2, hB2, hl2, hU2⟩ := hP
    have hF := hF.trans ⟨by rw [hl2]; exact Nat.le_refl _, fun y a => hU2 y (by omega)⟩
    have hC := hC.restore hD2 hB2 hl2 hU2
    refine e_aload_n dX11_restore_24 rfl ?_
    refine e_get dX11_restore_25 fl_X11_10_11 hC.1 rfl ?_
    refine e_get dX11_restore_28 fl_X11_58_2 hC.2.1.1 rfl ?_
    refine e_get dX11_restore_31 fl_X11_223_4 hC.2.1.2.1.1 rfl ?_
    have e9 : f_restore s = (((sK s) 0), wN s (sK s)) := by rw [f_restore, if_neg hcq4]
    rw [e9] at hp
    exact e_iret dX11_restore_34 rfl (hp _ ⟨hC, hF⟩)
  · refine e_aload_n dX11_restore_7 rfl ?_
    refine e_iconst (nI (2)) dX11_restore_8 (by decide) ?_
    refine c_V1i (nc := 0) (ns := 0) (mc := 0) (ms := 0) (N := mX11_error) dX11_restore_9 lv_X11_54 mo_X11_error hC.cn (Nat.le_of_ble_eq_true rfl) (Nat.le_of_ble_eq_true rfl) (by decide) (c_error D hC 2 (by decide)) (fun h hP => ?_)
    obtain ⟨hC, hF1⟩ := hP
    have hF := hF.trans hF1
    have e9 : f_restore s = er 2 (s) := by rw [f_restore, if_pos hcq4]
    rw [e9] at hp
    exact e_iret dX11_restore_12 rfl (hp _ ⟨hC, hF⟩)
set_option maxRecDepth 20000 in
theorem cp_count (D : En) {h : AH} {s : SS} (hI : INV s) (hC : ClsS h s) (w : Int32) : Sp D 1 mX11_count [.ref (11), .int (w)] h 0 0 (some (.int (f_count s w).1)) (fun h' => ClsS h' (f_count s w).2 ∧ FrC h h') := by
  have hY := hI.1.1
  have hnv := hY.2.1
  have htc10 := hY.2.2.2.1
  obtain ⟨h00, hh00⟩ : ∃ z, z = h := ⟨_, rfl⟩
  have hF : FrC h00 h := by rw [hh00]; exact FrC.rf
  obtain ⟨hLo, ⟨f1, hr1, he1⟩, ⟨f2, hr2, he2⟩, ⟨f3, hr3, he3⟩, ⟨T4, hr4, he4⟩, ⟨f5, hr5, he5⟩, ⟨f6, hr6, he6⟩, ⟨f7, hr7, he7⟩, ⟨R8, hr8, he8⟩, ⟨f9, hr9⟩, ⟨f10, hr10⟩, ⟨fG, hrG, heG⟩⟩ := id hC.L.1
  intro post hp
  rw [← hh00] at hp
  show Ev D 1 mX11_count 0 [some (.ref (11)), some (.int (w))] [] h 0 0 post
  obtain ⟨fW, bW, hRW, hWe⟩ := hC.2.1.2.2.2.2
  rw [hI.1.2.2.1.1] at hRW
  have hw20 := hI.1.2.2.1.2
  obtain ⟨fT, bT, hRT, hT40, hTe⟩ := hC.tr
  obtain ⟨fP, bP, hRP, hPe⟩ := hC.2.1.2.2.2.1
  rw [hI.1.2.1.1] at hRP
  refine e_iload_n dX11_count_0 rfl ?_
  by_cases hw : nI 0 ≤ w ∧ w ≤ nI 8
  · obtain ⟨hn_w, hg_w, hl_w⟩ := wiN hw (by decide) (by decide)
    rcases (show tn w = 0 ∨ tn w = 1 ∨ tn w = 2 ∨ tn w = 3 ∨ tn w = 4 ∨ tn w = 5 ∨ tn w = 6 ∨ tn w = 7 ∨ tn w = 8 by omega) with e0 | e0 | e0 | e0 | e0 | e0 | e0 | e0 | e0
    · refine e_top (nI 0) (by rw [hn_w, e0]) ?_
      refine e_tableIn (off := 51) 52 dX11_count_1 (by decide) (by decide) (by decide) (by decide) ?_
      refine e_aload_n dX11_count_52 rfl ?_
      refine e_get dX11_count_53 fl_X11_10_11 hC.1 rfl ?_
      refine e_get dX11_count_56 fl_X11_58_2 hC.2.1.1 rfl ?_
      refine e_get dX11_count_59 fl_X11_223_4 hC.2.1.2.1.1 rfl ?_
      have e9 : f_count s w = (((sN s) 0), s) := by rw [f_count, if_pos hw, e0] <;> rfl
      rw [e9] at hp
      exact e_iret dX11_count_62 rfl (hp _ ⟨hC, hF⟩)
    · refine e_top (nI 1) (by rw [hn_w, e0]) ?_
      refine e_tableIn (off := 62) 63 dX11_count_1 (by decide) (by decide) (by decide) (by decide) ?_
      refine e_aload_n dX11_count_63 rfl ?_
      refine e_get dX11_count_64 fl_X11_10_11 hC.1 rfl ?_
      refine e_get dX11_count_67 fl_X11_58_2 hC.2.1.1 rfl ?_
      refine e_get dX11_count_70 fl_X11_61_4 hC.2.1.2.1.1 rfl ?_
      have e9 : f_count s w = ((sN s 1), s) := by rw [f_count, if_pos hw, e0] <;> rfl
      rw [e9] at hp
      exact e_iret dX11_count_73 rfl (hp _ ⟨hC, hF⟩)
    · refine e_top (nI 2) (by rw [hn_w, e0]) ?_
      refine e_tableIn (off := 73) 74 dX11_count_1 (by decide) (by decide) (by decide) (by decide) ?_
      refine e_aload_n dX11_count_74 rfl ?_
      refine e_get dX11_count_75 fl_X11_10_11 hC.1 rfl ?_
      refine e_get dX11_count_78 fl_X11_58_2 hC.2.1.1 rfl ?_
      refine e_get dX11_count_81 fl_X11_120_4 hC.2.1.2.1.1 rfl ?_
      have e9 : f_count s w = ((sN s 2), s) := by rw [f_count, if_pos hw, e0] <;> rfl
      rw [e9] at hp
      exact e_iret dX11_count_84 rfl (hp _ ⟨hC, hF⟩)
    · refine e_top (nI 3) (by rw [hn_w, e0]) ?_
      refine e_tableIn (off := 84) 85 dX11_count_1 (by decide) (by decide) (by decide) (by decide) ?_
      refine e_aload_n dX11_count_85 rfl ?_
      refine e_get dX11_count_86 fl_X11_10_11 hC.1 rfl ?_
      refine e_get dX11_count_89 fl_X11_58_2 hC.2.1.1 rfl ?_
      refine e_get dX11_count_92 fl_X11_239_4 hC.2.1.2.1.1 rfl ?_
      refine c_S1iR (N := mJ6_bitCount_0f7a4) dX11_count_95 ls_X11_331 mo_J6_bitCount_0f7a4  (Nat.le_of_ble_eq_true rfl) (Nat.le_of_ble_eq_true rfl) (by decide) (k_bits D (opB (sN s))) ?_
      refine e_top ((sumF (fun t => sN s (112 + 7 * t + 5)) (tcN (sN s)))) (bc_op hI.1) ?_
      have e9 : f_count s w = ((sumF (fun t => sN s (112 + 7 * t + 5)) (tcN (sN s))), s) := by rw [f_count, if_pos hw, e0] <;> rfl
      rw [e9] at hp
      exact e_iret dX11_count_98 rfl (hp _ ⟨hC, hF⟩)
    · refine e_top (nI 4) (by rw [hn_w, e0]) ?_
      refine e_tableIn (off := 98) 99 dX11_count_1 (by decide) (by decide) (by decide) (by decide) ?_
      refine e_aload_n dX11_count_99 rfl ?_
      refine e_get dX11_count_100 fl_X11_10_11 hC.1 rfl ?_
      refine e_get dX11_count_103 fl_X11_58_2 hC.2.1.1 rfl ?_
      refine e_get dX11_count_106 fl_X11_220_4 hC.2.1.2.1.1 rfl ?_
      refine e_iconst (nI (5)) dX11_count_109 (by decide) ?_
      refine e_ild (5) ((sN s 12)) dX11_count_110 hr7 rfl (by decide) (by decide) (he7 5 (by decide)) ?_
      have e9 : f_count s w = ((sN s 12), s) := by rw [f_count, if_pos hw, e0] <;> rfl
      rw [e9] at hp
      exact e_iret dX11_count_111 rfl (hp _ ⟨hC, hF⟩)
    · refine e_top (nI 5) (by rw [hn_w, e0]) ?_
      refine e_tableIn (off := 111) 112 dX11_count_1 (by decide) (by decide) (by decide) (by decide) ?_
      refine e_aload_n dX11_count_112 rfl ?_
      refine e_get dX11_count_113 fl_X11_10_11 hC.1 rfl ?_
      refine e_get dX11_count_116 fl_X11_187_2 hC.2.1.1 rfl ?_
      refine e_get dX11_count_119 fl_X11_93_5 hRP.1 rfl ?_
      have e9 : f_count s w = (nI (tlN (sN s)), s) := by rw [f_count, if_pos hw, e0] <;> rfl
      rw [e9] at hp
      exact e_iret dX11_count_122 rfl (hp _ ⟨hC, hF⟩)
    · refine e_top (nI 6) (by rw [hn_w, e0]) ?_
      refine e_tableIn (off := 122) 123 dX11_count_1 (by decide) (by decide) (by decide) (by decide) ?_
      refine e_aload_n dX11_count_123 rfl ?_
      refine e_get dX11_count_124 fl_X11_10_11 hC.1 rfl ?_
      refine e_get dX11_count_127 fl_X11_325_2 hC.2.1.1 rfl ?_
      refine e_get dX11_count_130 fl_X11_93_5 hRW.1 rfl ?_
      have e9 : f_count s w = (nI (wlN (sN s)), s) := by rw [f_count, if_pos hw, e0] <;> rfl
      rw [e9] at hp
      exact e_iret dX11_count_133 rfl (hp _ ⟨hC, hF⟩)
    · refine e_top (nI 7) (by rw [hn_w, e0]) ?_
      refine e_tableIn (off := 133) 134 dX11_count_1 (by decide) (by decide) (by decide) (by decide) ?_
      refine e_aload_n dX11_count_134 rfl ?_
      refine e_get dX11_count_135 fl_X11_42_11 hC.1 rfl ?_
      refine e_get dX11_count_138 fl_X11_93_5 hRT.1 rfl ?_
      have e9 : f_count s w = (nI ((sT s).2), s) := by rw [f_count, if_pos hw, e0] <;> rfl
      rw [e9] at hp
      exact e_iret dX11_count_141 rfl (hp _ ⟨hC, hF⟩)
    · refine e_top (nI 8) (by rw [hn_w, e0]) ?_
      refine e_tableIn (off := 141) 142 dX11_count_1 (by decide) (by decide) (by decide) (by decide) ?_
      refine e_aload_n dX11_count_142 rfl ?_
      refine e_get dX11_count_143 fl_X11_10_11 hC.1 rfl ?_
      refine e_get dX11_count_146 fl_X11_287_2 hC.2.1.1 rfl ?_
      have e9 : f_count s w = (((sN s) 5), s) := by rw [f_count, if_pos hw, e0] <;> rfl
      rw [e9] at hp
      exact e_iret dX11_count_149 rfl (hp _ ⟨hC, hF⟩)
  · refine e_tableOut 150 dX11_count_1 (sw_out hw (by decide)) (by decide) ?_
    refine e_aload_n dX11_count_150 rfl ?_
    refine e_iconst (nI (1)) dX11_count_151 (by decide) ?_
    refine c_V1i (nc := 0) (ns := 0) (mc := 0) (ms := 0) (N := mX11_error) dX11_count_152 lv_X11_54 mo_X11_error hC.cn (Nat.le_of_ble_eq_true rfl) (Nat.le_of_ble_eq_true rfl) (by decide) (c_error D hC 1 (by decide)) (fun h hP => ?_)
    obtain ⟨hC, hF1⟩ := hP
    have hF := hF.trans hF1
    have e9 : f_count s w = er 1 (s) := by rw [f_count, if_neg hw]
    rw [e9] at hp
    exact e_iret dX11_count_155 rfl (hp _ ⟨hC, hF⟩)
set_option maxRecDepth 20000 in
theorem cp_as (D : En) {h : AH} {s : SS} (hI : INV s) (hC : ClsS h s) (t : Int32) (k : Int32) : Sp D 3 mX11_as [.ref (11), .int (t), .int (k)] h 0 0 (some (.int (f_as s t k).1)) (fun h' => ClsS h' (f_as s t k).2 ∧ FrC h h') := by
  have hY := hI.1.1
  have hnv := hY.2.1
  have htc10 := hY.2.2.2.1
  obtain ⟨h00, hh00⟩ : ∃ z, z = h := ⟨_, rfl⟩
  have hF : FrC h00 h := by rw [hh00]; exact FrC.rf
  obtain ⟨hLo, ⟨f1, hr1, he1⟩, ⟨f2, hr2, he2⟩, ⟨f3, hr3, he3⟩, ⟨T4, hr4, he4⟩, ⟨f5, hr5, he5⟩, ⟨f6, hr6, he6⟩, ⟨f7, hr7, he7⟩, ⟨R8, hr8, he8⟩, ⟨f9, hr9⟩, ⟨f10, hr10⟩, ⟨fG, hrG, heG⟩⟩ := id hC.L.1
  intro post hp
  rw [← hh00] at hp
  show Ev D 3 mX11_as 0 [some (.ref (11)), some (.int (t)), some (.int (k)), none] [] h 0 0 post
  refine e_aload_n dX11_as_0 rfl ?_
  refine e_iload_n dX11_as_1 rfl ?_
  refine c_V1iR (N := mX11_isThing) dX11_as_2 lv_X11_131 mo_X11_isThing hC.cn (Nat.le_of_ble_eq_true rfl) (Nat.le_of_ble_eq_true rfl) (by decide) (c_isT D hC ((t))) ?_
  refine e_if_eqB 18 dX11_as_5 (by decide) (fun hcq5 => ?_) (fun hcq5 => ?_)
  · refine e_aload_n dX11_as_18 rfl ?_
    refine e_iconst (nI (1)) dX11_as_19 (by decide) ?_
    refine c_V1i (nc := 0) (ns := 0) (mc := 0) (ms := 0) (N := mX11_error) dX11_as_20 lv_X11_54 mo_X11_error hC.cn (Nat.le_of_ble_eq_true rfl) (Nat.le_of_ble_eq_true rfl) (by decide) (c_error D hC 1 (by decide)) (fun h hP => ?_)
    obtain ⟨hC, hF1⟩ := hP
    have hF := hF.trans hF1
    have e9 : f_as s t k = er 1 (s) := by rw [f_as, if_neg hcq5]
    rw [e9] at hp
    exact e_iret dX11_as_23 rfl (hp _ ⟨hC, hF⟩)
  · obtain ⟨hn_t, hl_t⟩ := isN hcq5 hY.2.2.1 (by omega)
    refine e_iload_n dX11_as_8 rfl ?_
    refine e_iconst (nI (0)) dX11_as_9 (by decide) ?_
    refine e_bipush (nI (6)) dX11_as_10 (by decide) ?_
    refine c_S3iR (N := mX11_within) dX11_as_12 ls_X11_72 mo_X11_within  (Nat.le_of_ble_eq_true rfl) (Nat.le_of_ble_eq_true rfl) (by decide) (c_within D ((k)) (nI (0)) (nI (6))) ?_
    refine e_if_neB 24 dX11_as_15 (by decide) (fun hcq15 => ?_) (fun hcq15 => ?_)
    · obtain ⟨hn_k, hg_k, hl_k⟩ := wiN hcq15 (by decide) (by decide)
      refine e_aload_n dX11_as_24 rfl ?_
      refine e_get dX11_as_25 fl_X11_10_11 hC.1 rfl ?_
      refine e_get dX11_as_28 fl_X11_58_2 hC.2.1.1 rfl ?_
      refine e_get dX11_as_31 fl_X11_134_4 hC.2.1.2.1.1 rfl ?_
      refine e_iload_n dX11_as_34 rfl ?_
      refine e_top (nI (tn t)) (hn_t) ?_
      obtain ⟨b35, hTb35, hb35⟩ := he4 (tn t) (by omega)
      refine e_ald (v := some b35) (tn t) dX11_as_35 hr4 (Or.inl rfl) rfl (by omega) (by decide) hTb35 ?_
      refine e_astore_n dX11_as_36 (by decide) ?_
      refine e_aload_n dX11_as_37 rfl ?_
      refine e_iload_n dX11_as_38 rfl ?_
      refine e_top (nI (tn k)) (hn_k) ?_
      refine vi_X11_171 rfl dX11_as_39 hb35 (hY.2.2.2.2.1 _ (by omega)).2.1 (by omega) (Nat.le_of_ble_eq_true rfl) (by decide) ?_
      refine e_if_eqB 52 dX11_as_42 (by decide) (fun hcq42 => ?_) (fun hcq42 => ?_)
      · refine e_aload_n dX11_as_52 rfl ?_
        refine e_iconst (nI (5)) dX11_as_53 (by decide) ?_
        refine c_V1i (nc := 0) (ns := 0) (mc := 0) (ms := 0) (N := mX11_error) dX11_as_54 lv_X11_54 mo_X11_error hC.cn (Nat.le_of_ble_eq_true rfl) (Nat.le_of_ble_eq_true rfl) (by decide) (c_error D hC 5 (by decide)) (fun h hP => ?_)
        obtain ⟨hC, hF1⟩ := hP
        have hF := hF.trans hF1
        have e9 : f_as s t k = er 5 (s) := by rw [f_as, if_pos hcq5, if_pos hcq15, if_neg hcq42]
        rw [e9] at hp
        exact e_iret dX11_as_57 rfl (hp _ ⟨hC, hF⟩)
      · refine e_aload_n dX11_as_45 rfl ?_
        refine tf_get3 dX11_as_46 tl_X11_149 hb35 ?_
        refine e_goto 57 dX11_as_49 (by decide) ?_
        have e9 : f_as s t k = (((sN s) (112 + 7 * (tn t) + 3)), s) := by rw [f_as, if_pos hcq5, if_pos hcq15, if_pos hcq42]
        rw [e9] at hp
        exact e_iret dX11_as_57 rfl (hp _ ⟨hC, hF⟩)
    · refine e_aload_n dX11_as_18 rfl ?_
      refine e_iconst (nI (1)) dX11_as_19 (by decide) ?_
      refine c_V1i (nc := 0) (ns := 0) (mc := 0) (ms := 0) (N := mX11_error) dX11_as_20 lv_X11_54 mo_X11_error hC.cn (Nat.le_of_ble_eq_true rfl) (Nat.le_of_ble_eq_true rfl) (by decide) (c_error D hC 1 (by decide)) (fun h hP => ?_)
      obtain ⟨hC, hF1⟩ := hP
      have hF := hF.trans hF1
      have e9 : f_as s t k = er 1 (s) := by rw [f_as, if_pos hcq5, if_neg hcq15]
      rw [e9] at hp
      exact e_iret dX11_as_23 rfl (hp _ ⟨hC, hF⟩)
set_option maxRecDepth 20000 in
theorem cp_ofThing (D : En) {h : AH} {s : SS} (hI : INV s) (hC : ClsS h s) (t : Int32) (w : Int32) : Sp D 4 mX11_ofThing [.ref (11), .int (t), .int (w)] h 0 0 (some (.int (f_ofThing s t w).1)) (fun h' => ClsS h' (f_ofThing s t w).2 ∧ FrC h h') := by
  have hY := hI.1.1
  have hnv := hY.2.1
  have htc10 := hY.2.2.2.1
  obtain ⟨h00, hh00⟩ : ∃ z, z = h := ⟨_, rfl⟩
  have hF : FrC h00 h := by rw [hh00]; exact FrC.rf
  obtain ⟨hLo, ⟨f1, hr1, he1⟩, ⟨f2, hr2, he2⟩, ⟨f3, hr3, he3⟩, ⟨T4, hr4, he4⟩, ⟨f5, hr5, he5⟩, ⟨f6, hr6, he6⟩, ⟨f7, hr7, he7⟩, ⟨R8, hr8, he8⟩, ⟨f9, hr9⟩, ⟨f10, hr10⟩, ⟨fG, hrG, heG⟩⟩ := id hC.L.1
  intro post hp
  rw [← hh00] at hp
  show Ev D 4 mX11_ofThing 0 [some (.ref (11)), some (.int (t)), some (.int (w)), none, none] [] h 0 0 post
  refine e_aload_n dX11_ofThing_0 rfl ?_
  refine e_iload_n dX11_ofThing_1 rfl ?_
  refine c_V1iR (N := mX11_isThing) dX11_ofThing_2 lv_X11_131 mo_X11_isThing hC.cn (Nat.le_of_ble_eq_true rfl) (Nat.le_of_ble_eq_true rfl) (by decide) (c_isT D hC ((t))) ?_
  refine e_if_eqB 18 dX11_ofThing_5 (by decide) (fun hcq5 => ?_) (fun hcq5 => ?_)
  · refine e_aload_n dX11_ofThing_18 rfl ?_
    refine e_iconst (nI (1)) dX11_ofThing_19 (by decide) ?_
    refine c_V1i (nc := 0) (ns := 0) (mc := 0) (ms := 0) (N := mX11_error) dX11_ofThing_20 lv_X11_54 mo_X11_error hC.cn (Nat.le_of_ble_eq_true rfl) (Nat.le_of_ble_eq_true rfl) (by decide) (c_error D hC 1 (by decide)) (fun h hP => ?_)
    obtain ⟨hC, hF1⟩ := hP
    have hF := hF.trans hF1
    have e9 : f_ofThing s t w = er 1 (s) := by rw [f_ofThing, if_neg hcq5]
    rw [e9] at hp
    exact e_iret dX11_ofThing_23 rfl (hp _ ⟨hC, hF⟩)
  · obtain ⟨hn_t, hl_t⟩ := isN hcq5 hY.2.2.1 (by omega)
    refine e_iload_n dX11_ofThing_8 rfl ?_
    refine e_iconst (nI (0)) dX11_ofThing_9 (by decide) ?_
    refine e_bipush (nI (9)) dX11_ofThing_10 (by decide) ?_
    refine c_S3iR (N := mX11_within) dX11_ofThing_12 ls_X11_72 mo_X11_within  (Nat.le_of_ble_eq_true rfl) (Nat.le_of_ble_eq_true rfl) (by decide) (c_within D ((w)) (nI (0)) (nI (9))) ?_
    refine e_if_neB 24 dX11_ofThing_15 (by decide) (fun hcq15 => ?_) (fun hcq15 => ?_)
    · obtain ⟨hn_w, hg_w, hl_w⟩ := wiN hcq15 (by decide) (by decide)
      refine e_aload_n dX11_ofThing_24 rfl ?_
      refine e_get dX11_ofThing_25 fl_X11_10_11 hC.1 rfl ?_
      refine e_get dX11_ofThing_28 fl_X11_58_2 hC.2.1.1 rfl ?_
      refine e_astore_n dX11_ofThing_31 (by decide) ?_
      refine e_aload_n dX11_ofThing_32 rfl ?_
      refine e_get dX11_ofThing_33 fl_X11_134_4 hC.2.1.2.1.1 rfl ?_
      refine e_iload_n dX11_ofThing_36 rfl ?_
      refine e_top (nI (tn t)) (hn_t) ?_
      obtain ⟨b37, hTb37, hb37⟩ := he4 (tn t) (by omega)
      refine e_ald (v := some b37) (tn t) dX11_ofThing_37 hr4 (Or.inl rfl) rfl (by omega) (by decide) hTb37 ?_
      refine e_astore dX11_ofThing_38 (by decide) ?_
      refine e_iload_n dX11_ofThing_40 rfl ?_
      refine e_top (nI (tn w)) (hn_w) ?_
      rcases (show tn w = 0 ∨ tn w = 1 ∨ tn w = 2 ∨ tn w = 3 ∨ tn w = 4 ∨ tn w = 5 ∨ tn w = 6 ∨ tn w = 7 ∨ tn w = 8 ∨ tn w = 9 by omega) with e0 | e0 | e0 | e0 | e0 | e0 | e0 | e0 | e0 | e0
      · refine e_top (nI 0) (by rw [e0]) ?_
        refine e_tableIn (off := 51) 92 dX11_ofThing_41 (by decide) (by decide) (by decide) (by decide) ?_
        refine e_aload dX11_ofThing_92 rfl ?_
        refine vc_X11_138 rfl dX11_ofThing_94 hb37 (hY.2.2.2.2.1 _ (by omega)).2.1 (Nat.le_of_ble_eq_true rfl) (by decide) ?_
        refine e_top (sN s (112 + 7 * tn t + 0)) (hY.2.2.2.2.1 _ (by omega)).1.symm ?_
        have e9 : f_ofThing s t w = ((sN s (112 + 7 * tn t + 0)), s) := by rw [f_ofThing, if_pos hcq5, if_pos hcq15, e0] <;> rfl
        rw [e9] at hp
        exact e_iret dX11_ofThing_97 rfl (hp _ ⟨hC, hF⟩)
      · refine e_top (nI 1) (by rw [e0]) ?_
        refine e_tableIn (off := 57) 98 dX11_ofThing_41 (by decide) (by decide) (by decide) (by decide) ?_
        refine e_aload dX11_ofThing_98 rfl ?_
        refine tf_get1 dX11_ofThing_100 tl_X11_143 hb37 ?_
        have e9 : f_ofThing s t w = ((sN s (112 + 7 * tn t + 1)), s) := by rw [f_ofThing, if_pos hcq5, if_pos hcq15, e0] <;> rfl
        rw [e9] at hp
        exact e_iret dX11_ofThing_103 rfl (hp _ ⟨hC, hF⟩)
      · refine e_top (nI 2) (by rw [e0]) ?_
        refine e_tableIn (off := 63) 104 dX11_ofThing_41 (by decide) (by decide) (by decide) (by decide) ?_
        refine e_aload dX11_ofThing_104 rfl ?_
        refine tf_get2 dX11_ofThing_106 tl_X11_146 hb37 ?_
        have e9 : f_ofThing s t w = (((sN s) (112 + 7 * (tn t) + 2)), s) := by rw [f_ofThing, if_pos hcq5, if_pos hcq15, e0] <;> rfl
        rw [e9] at hp
        exact e_iret dX11_ofThing_109 rfl (hp _ ⟨hC, hF⟩)
      · refine e_top (nI 3) (by rw [e0]) ?_
        refine e_tableIn (off := 69) 110 dX11_ofThing_41 (by decide) (by decide) (by decide) (by decide) ?_
        refine e_aload dX11_ofThing_110 rfl ?_
        refine tf_get3 dX11_ofThing_112 tl_X11_149 hb37 ?_
        have e9 : f_ofThing s t w = (((sN s) (112 + 7 * (tn t) + 3)), s) := by rw [f_ofThing, if_pos hcq5, if_pos hcq15, e0] <;> rfl
        rw [e9] at hp
        exact e_iret dX11_ofThing_115 rfl (hp _ ⟨hC, hF⟩)
      · refine e_top (nI 4) (by rw [e0]) ?_
        refine e_tableIn (off := 75) 116 dX11_ofThing_41 (by decide) (by decide) (by decide) (by decide) ?_
        refine e_aload dX11_ofThing_116 rfl ?_
        refine tf_get4 dX11_ofThing_118 tl_X11_152 hb37 ?_
        have e9 : f_ofThing s t w = (((sN s) (112 + 7 * (tn t) + 4)), s) := by rw [f_ofThing, if_pos hcq5, if_pos hcq15, e0] <;> rfl
        rw [e9] at hp
        exact e_iret dX11_ofThing_121 rfl (hp _ ⟨hC, hF⟩)
      · refine e_top (nI 5) (by rw [e0]) ?_
        refine e_tableIn (off := 81) 122 dX11_ofThing_41 (by decide) (by decide) (by decide) (by decide) ?_
        refine e_aload_n dX11_ofThing_122 rfl ?_
        refine e_iload_n dX11_ofThing_123 rfl ?_
        refine e_top (nI (tn t)) (hn_t) ?_
        refine c_V1iR (N := mX4_isOpen) dX11_ofThing_124 lv_X11_155 mo_X4_isOpen hC.L.1.cn (Nat.le_of_ble_eq_true rfl) (Nat.le_of_ble_eq_true rfl) (by decide) (k_isOpen D hC.L.1 hI.1 (tn t) (by omega)) ?_
        have K1 : Ev D 4 mX11_ofThing 135 [some (.ref (11)), some (.int (t)), some (.int (w)), some (.ref (13)), some (.ref (b37))] [.int (sN s (112 + 7 * tn t + 5))] h 0 0 post := by
          have e9 : f_ofThing s t w = ((sN s (112 + 7 * tn t + 5)), s) := by rw [f_ofThing, if_pos hcq5, if_pos hcq15, e0] <;> rfl
          rw [e9] at hp
          exact e_iret dX11_ofThing_135 rfl (hp _ ⟨hC, hF⟩)
        refine e_if_eqB 134 dX11_ofThing_127 (by decide) (fun hcq127 => ?_) (fun hcq127 => ?_)
        · refine e_iconst (nI (0)) dX11_ofThing_134 (by decide) ?_
          exact e_top ((sN s (112 + 7 * tn t + 5))) (by first | exact (rg01 (hI.1.2.2.2.1.2.2.1 _ (by omega)).1 hcq127).symm | exact hcq127.symm) K1
        · refine e_iconst (nI (1)) dX11_ofThing_130 (by decide) ?_
          refine e_goto 135 dX11_ofThing_131 (by decide) ?_
          exact e_top ((sN s (112 + 7 * tn t + 5))) (by first | exact (rg01 (hI.1.2.2.2.1.2.2.1 _ (by omega)).1 hcq127).symm | exact hcq127.symm) K1
      · refine e_top (nI 6) (by rw [e0]) ?_
        refine e_tableIn (off := 95) 136 dX11_ofThing_41 (by decide) (by decide) (by decide) (by decide) ?_
        refine e_aload_n dX11_ofThing_136 rfl ?_
        refine e_get dX11_ofThing_137 fl_X11_158_4 hC.2.1.2.1.1 rfl ?_
        refine e_iload_n dX11_ofThing_140 rfl ?_
        refine e_top (nI (tn t)) (hn_t) ?_
        refine e_ild (tn t) (((sN s) (112 + 7 * (tn t) + 6))) dX11_ofThing_141 hr5 rfl (by omega) (by decide) (he5 _ (by omega)) ?_
        have e9 : f_ofThing s t w = (((sN s) (112 + 7 * (tn t) + 6)), s) := by rw [f_ofThing, if_pos hcq5, if_pos hcq15, e0] <;> rfl
        rw [e9] at hp
        exact e_iret dX11_ofThing_142 rfl (hp _ ⟨hC, hF⟩)
      · refine e_top (nI 7) (by rw [e0]) ?_
        refine e_tableIn (off := 102) 143 dX11_ofThing_41 (by decide) (by decide) (by decide) (by decide) ?_
        refine e_aload dX11_ofThing_143 rfl ?_
        refine e_aload_n dX11_ofThing_145 rfl ?_
        refine e_aload dX11_ofThing_146 rfl ?_
        refine tf_get1 dX11_ofThing_148 tl_X11_143 hb37 ?_
        refine e_top (nI (atN (sN s) (tn t))) (hY.2.2.2.2.1 _ (by omega)).2.2.1 ?_
        refine e_aload_n dX11_ofThing_151 rfl ?_
        refine e_get dX11_ofThing_152 fl_X11_161_4 hC.2.1.2.1.1 rfl ?_
        refine e_iload_n dX11_ofThing_155 rfl ?_
        refine e_top (nI (tn t)) (hn_t) ?_
        refine e_ild (tn t) ((servedR (sN s) (nvN (sN s)) (tn t))) dX11_ofThing_156 hr6 rfl (by omega) (by decide) (he6 _ (by omega)) ?_
        refine vu_X11_164 rfl dX11_ofThing_157 hC.L.1 hI.1 hb37 (hY.2.2.2.2.1 _ (by omega)).2.1 (sN s (112 + 7 * tn t + 4)) (hY.2.2.2.2.1 _ (by omega)).2.2.2 (fun v hv => svB_t hnv hv) (Nat.le_of_ble_eq_true rfl) (by decide) ?_
        have e9 : f_ofThing s t w = ((usN (sN s) (tn t)), s) := by rw [f_ofThing, if_pos hcq5, if_pos hcq15, e0] <;> rfl
        rw [e9] at hp
        exact e_iret dX11_ofThing_160 rfl (hp _ ⟨hC, hF⟩)
      · refine e_top (nI 8) (by rw [e0]) ?_
        refine e_tableIn (off := 120) 161 dX11_ofThing_41 (by decide) (by decide) (by decide) (by decide) ?_
        refine e_aload dX11_ofThing_161 rfl ?_
        refine vc_X11_168 rfl dX11_ofThing_163 hb37 (hY.2.2.2.2.1 _ (by omega)).2.1 (Nat.le_of_ble_eq_true rfl) (by decide) ?_
        have e9 : f_ofThing s t w = ((G0 (kdN (sN s) (tn t))), s) := by rw [f_ofThing, if_pos hcq5, if_pos hcq15, e0] <;> rfl
        rw [e9] at hp
        exact e_iret dX11_ofThing_166 rfl (hp _ ⟨hC, hF⟩)
      · refine e_top (nI 9) (by rw [e0]) ?_
        refine e_tableOut 167 dX11_ofThing_41 (by decide) (by decide) ?_
        refine e_aload_n dX11_ofThing_167 rfl ?_
        refine e_get dX11_ofThing_168 fl_X11_161_4 hC.2.1.2.1.1 rfl ?_
        refine e_iload_n dX11_ofThing_171 rfl ?_
        refine e_top (nI (tn t)) (hn_t) ?_
        refine e_ild (tn t) ((servedR (sN s) (nvN (sN s)) (tn t))) dX11_ofThing_172 hr6 rfl (by omega) (by decide) (he6 _ (by omega)) ?_
        have e9 : f_ofThing s t w = ((servedR (sN s) (nvN (sN s)) (tn t)), s) := by rw [f_ofThing, if_pos hcq5, if_pos hcq15, e0] <;> rfl
        rw [e9] at hp
        exact e_iret dX11_ofThing_173 rfl (hp _ ⟨hC, hF⟩)
    · refine e_aload_n dX11_ofThing_18 rfl ?_
      refine e_iconst (nI (1)) dX11_ofThing_19 (by decide) ?_
      refine c_V1i (nc := 0) (ns := 0) (mc := 0) (ms := 0) (N := mX11_error) dX11_ofThing_20 lv_X11_54 mo_X11_error hC.cn (Nat.le_of_ble_eq_true rfl) (Nat.le_of_ble_eq_true rfl) (by decide) (c_error D hC 1 (by decide)) (fun h hP => ?_)
      obtain ⟨hC, hF1⟩ := hP
      have hF := hF.trans hF1
      have e9 : f_ofThing s t w = er 1 (s) := by rw [f_ofThing, if_pos hcq5, if_neg hcq15]
      rw [e9] at hp
      exact e_iret dX11_ofThing_23 rfl (hp _ ⟨hC, hF⟩)
