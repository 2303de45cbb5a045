set_option maxRecDepth 20000 in
theorem k_go (D : En) {h : AH} {a : Nat} {N : Nat → Int32} (hL : LB h a N) (hI : IN N) {C C9 : Nat → Int32} (hCr : Row0 h (a + 10) 8 C9) (hCe : ∀ w, w < nvN N → C9 w = C w) : Sp D 3 mX4_letGo [.ref a] h 0 0 none (fun h' => LB h' a (goR (txN N 1) C N (nvN N)) ∧ IN (goR (txN N 1) C N (nvN N)) ∧ FY a h h' ∧ JW (goR (txN N 1) C N (nvN N)) N ∧ Row0 h' (a + 10) 8 C9) := by
  obtain ⟨hLo, ⟨f1, hr1, he1⟩, ⟨f2, hr2, he2⟩, ⟨f3, hr3, he3⟩, ⟨T4, hr4, he4⟩, ⟨f5, hr5, he5⟩, ⟨f6, hr6, he6⟩, ⟨f7, hr7, he7⟩, ⟨R8, hr8, he8⟩, ⟨f9, hr9⟩, ⟨f10, hr10⟩, ⟨fG, hrG, heG⟩⟩ := id hL.1
  have hY := hI.1
  have hnv := hY.2.1
  have htc10 := hY.2.2.2.1
  have ha97 := hL.2.2
  obtain ⟨A10, hAr⟩ : ∃ A10, Row0 h (a + 11) 3 A10 := ⟨f10, hr10⟩
  have hA : ∀ w, w < 0 → A10 w = nI 0 := fun w hw => absurd hw (Nat.not_lt_zero w)
  obtain ⟨hv, hhv⟩ : ∃ z, z = havW C (nvN N) := ⟨_, rfl⟩
  have hhv8 : hv < 8 := by
    rcases Nat.eq_zero_or_pos (nvN N) with z | z
    · rw [hhv, z]; show 0 < 8; decide
    · have := havW_lt C (nvN N) z; omega
  obtain ⟨h00, hh00⟩ : ∃ z, z = h := ⟨_, rfl⟩
  have hF : FY a h00 h := by rw [hh00]; exact FY.rf
  intro post hp
  rw [← hh00] at hp
  show Ev D 3 mX4_letGo 0 [some (.ref (a)), none, none, none, none, none, none] [] h 0 0 post
  refine e_aload_n dX4_letGo_0 rfl ?_
  refine c_V0iR (N := mX4_mostComfort) dX4_letGo_1 lv_X4_175 mo_X4_mostComfort hL.1.cn (Nat.le_of_ble_eq_true rfl) (Nat.le_of_ble_eq_true rfl) (by decide) (k_mostComfort D hL.1 hI hCr) ?_
  refine e_top (nI (hv)) (by rw [hhv, havW_congr hCe]) ?_
  refine e_istore_n dX4_letGo_4 (by decide) ?_
  refine e_iconst (nI (0)) dX4_letGo_5 (by decide) ?_
  refine e_istore_n dX4_letGo_6 (by decide) ?_
  refine e_iload_n dX4_letGo_7 rfl ?_
  refine e_iconst (nI (3)) dX4_letGo_8 (by decide) ?_
  refine e_icmp_geN 25 dX4_letGo_9 (by decide) (by omega) (by omega) (fun hcq9 => absurd hcq9 (by decide)) (fun hcq9 => ?_)
  refine e_aload_n dX4_letGo_12 rfl ?_
  refine e_get dX4_letGo_13 fl_X4_72_4 hLo rfl ?_
  refine e_iload_n dX4_letGo_16 rfl ?_
  refine e_iconst (nI (0)) dX4_letGo_17 (by decide) ?_
  refine e_ist 0 dX4_letGo_18 hAr rfl (by omega) (by decide) ?_
  have hLp := hL.w10 hI (upd A10 0 (nI 0))
  have hFp := hF.set (.inl (0, 3, .inl (upd A10 0 (nI 0)))) (show a ≤ a + 11 ∧ a + 11 ≤ a + 11 by omega)
  have hCrp : Row0 (h.set (a + 11) (.inl (0, 3, .inl (upd A10 0 (nI 0))))) (a + 10) 8 C9 := getset hCr (by omega)
  have hArp : Row0 (h.set (a + 11) (.inl (0, 3, .inl (upd A10 0 (nI 0))))) (a + 11) 3 (upd A10 0 (nI 0)) := getself hAr
  obtain ⟨h, hh9⟩ : ∃ z, z = h.set (a + 11) (.inl (0, 3, .inl (upd A10 0 (nI 0)))) := ⟨_, rfl⟩
  rw [← hh9] at hLp hFp hCrp hArp ⊢
  clear hh9
  have hL := hLp
  have hF := hFp
  have hCr := hCrp
  have hA : ∀ w, w < 1 → upd A10 0 (nI 0) w = nI 0 := fun w hw => by
    by_cases e9 : w = 0
    · rw [e9, pk_us]
    · rw [pk_un e9]; exact hA w (by omega)
  obtain ⟨A10, hA10⟩ : ∃ z, z = upd A10 0 (nI 0) := ⟨_, rfl⟩
  rw [← hA10] at hArp hA
  clear hA10
  have hAr := hArp
  obtain ⟨hLo, -, -, -, -, -, -, -, -, -, -⟩ := id hL.1
  refine e_iincN 1 dX4_letGo_19 rfl (by decide) (nI_add 0 1) ?_
  refine e_goto 7 dX4_letGo_22 (by decide) ?_
  refine e_iload_n dX4_letGo_7 rfl ?_
  refine e_iconst (nI (3)) dX4_letGo_8 (by decide) ?_
  refine e_icmp_geN 25 dX4_letGo_9 (by decide) (by omega) (by omega) (fun hcq9 => absurd hcq9 (by decide)) (fun hcq9 => ?_)
  refine e_aload_n dX4_letGo_12 rfl ?_
  refine e_get dX4_letGo_13 fl_X4_72_4 hLo rfl ?_
  refine e_iload_n dX4_letGo_16 rfl ?_
  refine e_iconst (nI (0)) dX4_letGo_17 (by decide) ?_
  refine e_ist 1 dX4_letGo_18 hAr rfl (by omega) (by decide) ?_
  have hLp := hL.w10 hI (upd A10 1 (nI 0))
  have hFp := hF.set (.inl (0, 3, .inl (upd A10 1 (nI 0)))) (show a ≤ a + 11 ∧ a + 11 ≤ a + 11 by omega)
  have hCrp : Row0 (h.set (a + 11) (.inl (0, 3, .inl (upd A10 1 (nI 0))))) (a + 10) 8 C9 := getset hCr (by omega)
  have hArp : Row0 (h.set (a + 11) (.inl (0, 3, .inl (upd A10 1 (nI 0))))) (a + 11) 3 (upd A10 1 (nI 0)) := getself hAr
  obtain ⟨h, hh9⟩ : ∃ z, z = h.set (a + 11) (.inl (0, 3, .inl (upd A10 1 (nI 0)))) := ⟨_, rfl⟩
  rw [← hh9] at hLp hFp hCrp hArp ⊢
  clear hh9
  have hL := hLp
  have hF := hFp
  have hCr := hCrp
  have hA : ∀ w, w < 2 → upd A10 1 (nI 0) w = nI 0 := fun w hw => by
    by_cases e9 : w = 1
    · rw [e9, pk_us]
    · rw [pk_un e9]; exact hA w (by omega)
  obtain ⟨A10, hA10⟩ : ∃ z, z = upd A10 1 (nI 0) := ⟨_, rfl⟩
  rw [← hA10] at hArp hA
  clear hA10
  have hAr := hArp
  obtain ⟨hLo, -, -, -, -, -, -, -, -, -, -⟩ := id hL.1
  refine e_iincN 2 dX4_letGo_19 rfl (by decide) (nI_add 1 1) ?_
  refine e_goto 7 dX4_letGo_22 (by decide) ?_
  refine e_iload_n dX4_letGo_7 rfl ?_
  refine e_iconst (nI (3)) dX4_letGo_8 (by decide) ?_
  refine e_icmp_geN 25 dX4_letGo_9 (by decide) (by omega) (by omega) (fun hcq9 => absurd hcq9 (by decide)) (fun hcq9 => ?_)
  refine e_aload_n dX4_letGo_12 rfl ?_
  refine e_get dX4_letGo_13 fl_X4_72_4 hLo rfl ?_
  refine e_iload_n dX4_letGo_16 rfl ?_
  refine e_iconst (nI (0)) dX4_letGo_17 (by decide) ?_
  refine e_ist 2 dX4_letGo_18 hAr rfl (by omega) (by decide) ?_
  have hLp := hL.w10 hI (upd A10 2 (nI 0))
  have hFp := hF.set (.inl (0, 3, .inl (upd A10 2 (nI 0)))) (show a ≤ a + 11 ∧ a + 11 ≤ a + 11 by omega)
  have hCrp : Row0 (h.set (a + 11) (.inl (0, 3, .inl (upd A10 2 (nI 0))))) (a + 10) 8 C9 := getset hCr (by omega)
  have hArp : Row0 (h.set (a + 11) (.inl (0, 3, .inl (upd A10 2 (nI 0))))) (a + 11) 3 (upd A10 2 (nI 0)) := getself hAr
  obtain ⟨h, hh9⟩ : ∃ z, z = h.set (a + 11) (.inl (0, 3, .inl (upd A10 2 (nI 0)))) := ⟨_, rfl⟩
  rw [← hh9] at hLp hFp hCrp hArp ⊢
  clear hh9
  have hL := hLp
  have hF := hFp
  have hCr := hCrp
  have hA : ∀ w, w < 3 → upd A10 2 (nI 0) w = nI 0 := fun w hw => by
    by_cases e9 : w = 2
    · rw [e9, pk_us]
    · rw [pk_un e9]; exact hA w (by omega)
  obtain ⟨A10, hA10⟩ : ∃ z, z = upd A10 2 (nI 0) := ⟨_, rfl⟩
  rw [← hA10] at hArp hA
  clear hA10
  have hAr := hArp
  obtain ⟨hLo, -, -, -, -, -, -, -, -, -, -⟩ := id hL.1
  refine e_iincN 3 dX4_letGo_19 rfl (by decide) (nI_add 2 1) ?_
  refine e_goto 7 dX4_letGo_22 (by decide) ?_
  refine e_iload_n dX4_letGo_7 rfl ?_
  refine e_iconst (nI (3)) dX4_letGo_8 (by decide) ?_
  refine e_icmp_geN 25 dX4_letGo_9 (by decide) (by omega) (by omega) (fun hcq9 => ?_) (fun hcq9 => absurd hcq9 (by decide))
  refine e_iconst (nI (0)) dX4_letGo_25 (by decide) ?_
  refine e_istore_n dX4_letGo_26 (by decide) ?_
  refine kl_goV D (N0 := N) (N1 := N) (h0 := h00) (C := C) hv hhv8 hCe (fun h M hM hG => ?_) (nvN N) 0 h (N, fun _ => nI 0) (by omega) rfl ⟨hL, hI, hF, JW.rf hI.2.2.2.1, hCr, ⟨A10, hAr, hA⟩, fun w hw => ⟨0, rfl, by omega⟩⟩
  obtain ⟨hL, hI, hF, hJ, hCr, ⟨A10, hAr, hA2⟩, hB⟩ := hG
  obtain ⟨hLo, ⟨f1, hr1, he1⟩, ⟨f2, hr2, he2⟩, ⟨f3, hr3, he3⟩, ⟨T4, hr4, he4⟩, ⟨f5, hr5, he5⟩, ⟨f6, hr6, he6⟩, ⟨f7, hr7, he7⟩, ⟨R8, hr8, he8⟩, ⟨f9, hr9⟩, ⟨f10, hr10⟩, ⟨fG, hrG, heG⟩⟩ := id hL.1
  have hY := hI.1
  have hnv := hY.2.1
  have htc10 := hY.2.2.2.1
  rcases Nat.eq_zero_or_pos (nvN N) with hn0 | hn0
  · refine e_iconst (nI (0)) dX4_letGo_131 (by decide) ?_
    refine e_istore_n dX4_letGo_132 (by decide) ?_
    refine e_iload_n dX4_letGo_133 rfl ?_
    refine e_iconst (nI (3)) dX4_letGo_134 (by decide) ?_
    refine e_icmp_geN 181 dX4_letGo_135 (by decide) (by omega) (by omega) (fun hcq135 => absurd hcq135 (by decide)) (fun hcq135 => ?_)
    refine e_aload_n dX4_letGo_138 rfl ?_
    refine e_get dX4_letGo_139 fl_X4_18_4 hLo rfl ?_
    refine e_top (nI (nvN N)) (by rw [← hJ.nv]; exact hY.1) ?_
    refine e_if_leN 181 dX4_letGo_142 (by decide) (by omega) (fun hcq142 => ?_) (fun hcq142 => absurd hcq142 (by omega))
    have eG : M.1 = goR (txN N 1) C N (nvN N) := by unfold goR; rw [if_pos hn0, hM, hn0]; rfl
    rw [eG] at hL hI hJ
    exact e_vret dX4_letGo_181 rfl (hp _ ⟨hL, hI, hF, hJ, hCr⟩)
  · refine e_iconst (nI (0)) dX4_letGo_131 (by decide) ?_
    refine e_istore_n dX4_letGo_132 (by decide) ?_
    refine e_iload_n dX4_letGo_133 rfl ?_
    refine e_iconst (nI (3)) dX4_letGo_134 (by decide) ?_
    refine e_icmp_geN 181 dX4_letGo_135 (by decide) (by omega) (by omega) (fun hcq135 => absurd hcq135 (by decide)) (fun hcq135 => ?_)
    refine e_aload_n dX4_letGo_138 rfl ?_
    refine e_get dX4_letGo_139 fl_X4_18_4 hLo rfl ?_
    refine e_top (nI (nvN N)) (by rw [← hJ.nv]; exact hY.1) ?_
    refine e_if_leN 181 dX4_letGo_142 (by decide) (by omega) (fun hcq142 => absurd hcq142 (by omega)) (fun hcq142 => ?_)
    refine e_aload_n dX4_letGo_145 rfl ?_
    refine e_get dX4_letGo_146 fl_X4_31_4 hLo rfl ?_
    refine e_iconst (nI (3)) dX4_letGo_149 (by decide) ?_
    refine e_iload_n dX4_letGo_150 rfl ?_
    refine e_imulN dX4_letGo_151 ?_
    refine e_iload_n dX4_letGo_152 rfl ?_
    refine e_iaddN dX4_letGo_153 ?_
    refine e_aload_n dX4_letGo_154 rfl ?_
    refine e_get dX4_letGo_155 fl_X4_31_4 hLo rfl ?_
    refine e_iconst (nI (3)) dX4_letGo_158 (by decide) ?_
    refine e_iload_n dX4_letGo_159 rfl ?_
    refine e_imulN dX4_letGo_160 ?_
    refine e_iload_n dX4_letGo_161 rfl ?_
    refine e_iaddN dX4_letGo_162 ?_
    refine e_ild ((3 * hv) + 0) (((M.1) (16 + 4 * hv + 1 + 0))) dX4_letGo_163 hr2 rfl (by omega) (by decide) (he2 hv (by omega) 0 (by decide)) ?_
    refine e_aload_n dX4_letGo_164 rfl ?_
    refine e_get dX4_letGo_165 fl_X4_72_4 hLo rfl ?_
    refine e_iload_n dX4_letGo_168 rfl ?_
    refine e_ild (0) ((M.2 0)) dX4_letGo_169 hAr rfl (by omega) (by decide) (hA2 _ (by decide)) ?_
    refine e_iadd dX4_letGo_170 ?_
    refine c_S1iR (N := mX4_held) dX4_letGo_171 ls_X4_182 mo_X4_held  (Nat.le_of_ble_eq_true rfl) (Nat.le_of_ble_eq_true rfl) (by decide) (k_held D ((((M.1) (16 + 4 * hv + 1 + 0)) + (M.2 0)))) ?_
    obtain ⟨p9, hp9, hp8⟩ := hB 0 (by decide)
    refine e_top (chg ((M.1) (16 + 4 * hv + 1 + 0)) (M.2 0).toInt64) (fin_eq (hI.2.2.2.1.1 hv (by omega) 0 (by decide)) hp9 (Nat.le_trans hp8 (by decide))) ?_
    refine e_ist (3 * hv + 0) dX4_letGo_174 hr2 rfl (by omega) (by decide) ?_
    have hLp : LB (h.set (a + 2) (.inl (0, 24, .inl (upd f2 (3 * hv + 0) (chg ((M.1) (16 + 4 * hv + 1 + 0)) (M.2 0).toInt64))))) a (goF M hv 0 (M.1)) := hL.pe hI hr2 (by omega) (by decide) _
    have hFp := hF.set (.inl (0, 24, .inl (upd f2 (3 * hv + 0) (chg ((M.1) (16 + 4 * hv + 1 + 0)) (M.2 0).toInt64)))) (show a ≤ a + 2 ∧ a + 2 ≤ a + 11 by omega)
    have hI : IN (goF M hv 0 (M.1)) := IN_pe hI (by omega) (by decide) (rg_chg _ _)
    have hJ : JW (goF M hv 0 (M.1)) N := hJ.pe (by omega) (by decide) (rg_chg _ _)
    have hCrp : Row0 (h.set (a + 2) (.inl (0, 24, .inl (upd f2 (3 * hv + 0) (chg ((M.1) (16 + 4 * hv + 1 + 0)) (M.2 0).toInt64))))) (a + 10) 8 C9 := getset hCr (by omega)
    have hArp : Row0 (h.set (a + 2) (.inl (0, 24, .inl (upd f2 (3 * hv + 0) (chg ((M.1) (16 + 4 * hv + 1 + 0)) (M.2 0).toInt64))))) (a + 11) 3 A10 := getset hAr (by omega)
    obtain ⟨h, hh9⟩ : ∃ z, z = h.set (a + 2) (.inl (0, 24, .inl (upd f2 (3 * hv + 0) (chg ((M.1) (16 + 4 * hv + 1 + 0)) (M.2 0).toInt64)))) := ⟨_, rfl⟩
    rw [← hh9] at hLp hFp hCrp hArp ⊢
    clear hh9
    have hL := hLp
    have hF := hFp
    have hCr := hCrp
    have hAr := hArp
    obtain ⟨hLo, ⟨f1, hr1, he1⟩, ⟨f2, hr2, he2⟩, ⟨f3, hr3, he3⟩, ⟨T4, hr4, he4⟩, ⟨f5, hr5, he5⟩, ⟨f6, hr6, he6⟩, ⟨f7, hr7, he7⟩, ⟨R8, hr8, he8⟩, ⟨f9, hr9⟩, ⟨f10, hr10⟩, ⟨fG, hrG, heG⟩⟩ := id hL.1
    have hY := hI.1
    have hnv := hY.2.1
    have htc10 := hY.2.2.2.1
    refine e_iincN 1 dX4_letGo_175 rfl (by decide) (nI_add 0 1) ?_
    refine e_goto 133 dX4_letGo_178 (by decide) ?_
    refine e_iload_n dX4_letGo_133 rfl ?_
    refine e_iconst (nI (3)) dX4_letGo_134 (by decide) ?_
    refine e_icmp_geN 181 dX4_letGo_135 (by decide) (by omega) (by omega) (fun hcq135 => absurd hcq135 (by decide)) (fun hcq135 => ?_)
    refine e_aload_n dX4_letGo_138 rfl ?_
    refine e_get dX4_letGo_139 fl_X4_18_4 hLo rfl ?_
    refine e_top (nI (nvN N)) (by rw [← hJ.nv]; exact hY.1) ?_
    refine e_if_leN 181 dX4_letGo_142 (by decide) (by omega) (fun hcq142 => absurd hcq142 (by omega)) (fun hcq142 => ?_)
    refine e_aload_n dX4_letGo_145 rfl ?_
    refine e_get dX4_letGo_146 fl_X4_31_4 hLo rfl ?_
    refine e_iconst (nI (3)) dX4_letGo_149 (by decide) ?_
    refine e_iload_n dX4_letGo_150 rfl ?_
    refine e_imulN dX4_letGo_151 ?_
    refine e_iload_n dX4_letGo_152 rfl ?_
    refine e_iaddN dX4_letGo_153 ?_
    refine e_aload_n dX4_letGo_154 rfl ?_
    refine e_get dX4_letGo_155 fl_X4_31_4 hLo rfl ?_
    refine e_iconst (nI (3)) dX4_letGo_158 (by decide) ?_
    refine e_iload_n dX4_letGo_159 rfl ?_
    refine e_imulN dX4_letGo_160 ?_
    refine e_iload_n dX4_letGo_161 rfl ?_
    refine e_iaddN dX4_letGo_162 ?_
    refine e_ild ((3 * hv) + 1) (((goF M hv 0 (M.1)) (16 + 4 * hv + 1 + 1))) dX4_letGo_163 hr2 rfl (by omega) (by decide) (he2 hv (by omega) 1 (by decide)) ?_
    refine e_aload_n dX4_letGo_164 rfl ?_
    refine e_get dX4_letGo_165 fl_X4_72_4 hLo rfl ?_
    refine e_iload_n dX4_letGo_168 rfl ?_
    refine e_ild (1) ((M.2 1)) dX4_letGo_169 hAr rfl (by omega) (by decide) (hA2 _ (by decide)) ?_
    refine e_iadd dX4_letGo_170 ?_
    refine c_S1iR (N := mX4_held) dX4_letGo_171 ls_X4_182 mo_X4_held  (Nat.le_of_ble_eq_true rfl) (Nat.le_of_ble_eq_true rfl) (by decide) (k_held D ((((goF M hv 0 (M.1)) (16 + 4 * hv + 1 + 1)) + (M.2 1)))) ?_
    obtain ⟨p9, hp9, hp8⟩ := hB 1 (by decide)
    refine e_top (chg ((goF M hv 0 (M.1)) (16 + 4 * hv + 1 + 1)) (M.2 1).toInt64) (fin_eq (hI.2.2.2.1.1 hv (by omega) 1 (by decide)) hp9 (Nat.le_trans hp8 (by decide))) ?_
    refine e_ist (3 * hv + 1) dX4_letGo_174 hr2 rfl (by omega) (by decide) ?_
    have hLp : LB (h.set (a + 2) (.inl (0, 24, .inl (upd f2 (3 * hv + 1) (chg ((goF M hv 0 (M.1)) (16 + 4 * hv + 1 + 1)) (M.2 1).toInt64))))) a (goF M hv 1 (goF M hv 0 (M.1))) := hL.pe hI hr2 (by omega) (by decide) _
    have hFp := hF.set (.inl (0, 24, .inl (upd f2 (3 * hv + 1) (chg ((goF M hv 0 (M.1)) (16 + 4 * hv + 1 + 1)) (M.2 1).toInt64)))) (show a ≤ a + 2 ∧ a + 2 ≤ a + 11 by omega)
    have hI : IN (goF M hv 1 (goF M hv 0 (M.1))) := IN_pe hI (by omega) (by decide) (rg_chg _ _)
    have hJ : JW (goF M hv 1 (goF M hv 0 (M.1))) N := hJ.pe (by omega) (by decide) (rg_chg _ _)
    have hCrp : Row0 (h.set (a + 2) (.inl (0, 24, .inl (upd f2 (3 * hv + 1) (chg ((goF M hv 0 (M.1)) (16 + 4 * hv + 1 + 1)) (M.2 1).toInt64))))) (a + 10) 8 C9 := getset hCr (by omega)
    have hArp : Row0 (h.set (a + 2) (.inl (0, 24, .inl (upd f2 (3 * hv + 1) (chg ((goF M hv 0 (M.1)) (16 + 4 * hv + 1 + 1)) (M.2 1).toInt64))))) (a + 11) 3 A10 := getset hAr (by omega)
    obtain ⟨h, hh9⟩ : ∃ z, z = h.set (a + 2) (.inl (0, 24, .inl (upd f2 (3 * hv + 1) (chg ((goF M hv 0 (M.1)) (16 + 4 * hv + 1 + 1)) (M.2 1).toInt64)))) := ⟨_, rfl⟩
    rw [← hh9] at hLp hFp hCrp hArp ⊢
    clear hh9
    have hL := hLp
    have hF := hFp
    have hCr := hCrp
    have hAr := hArp
    obtain ⟨hLo, ⟨f1, hr1, he1⟩, ⟨f2, hr2, he2⟩, ⟨f3, hr3, he3⟩, ⟨T4, hr4, he4⟩, ⟨f5, hr5, he5⟩, ⟨f6, hr6, he6⟩, ⟨f7, hr7, he7⟩, ⟨R8, hr8, he8⟩, ⟨f9, hr9⟩, ⟨f10, hr10⟩, ⟨fG, hrG, heG⟩⟩ := id hL.1
    have hY := hI.1
    have hnv := hY.2.1
    have htc10 := hY.2.2.2.1
    refine e_iincN 2 dX4_letGo_175 rfl (by decide) (nI_add 1 1) ?_
    refine e_goto 133 dX4_letGo_178 (by decide) ?_
    refine e_iload_n dX4_letGo_133 rfl ?_
    refine e_iconst (nI (3)) dX4_letGo_134 (by decide) ?_
    refine e_icmp_geN 181 dX4_letGo_135 (by decide) (by omega) (by omega) (fun hcq135 => absurd hcq135 (by decide)) (fun hcq135 => ?_)
    refine e_aload_n dX4_letGo_138 rfl ?_
    refine e_get dX4_letGo_139 fl_X4_18_4 hLo rfl ?_
    refine e_top (nI (nvN N)) (by rw [← hJ.nv]; exact hY.1) ?_
    refine e_if_leN 181 dX4_letGo_142 (by decide) (by omega) (fun hcq142 => absurd hcq142 (by omega)) (fun hcq142 => ?_)
    refine e_aload_n dX4_letGo_145 rfl ?_
    refine e_get dX4_letGo_146 fl_X4_31_4 hLo rfl ?_
    refine e_iconst (nI (3)) dX4_letGo_149 (by decide) ?_
    refine e_iload_n dX4_letGo_150 rfl ?_
    refine e_imulN dX4_letGo_151 ?_
    refine e_iload_n dX4_letGo_152 rfl ?_
    refine e_iaddN dX4_letGo_153 ?_
    refine e_aload_n dX4_letGo_154 rfl ?_
    refine e_get dX4_letGo_155 fl_X4_31_4 hLo rfl ?_
    refine e_iconst (nI (3)) dX4_letGo_158 (by decide) ?_
    refine e_iload_n dX4_letGo_159 rfl ?_
    refine e_imulN dX4_letGo_160 ?_
    refine e_iload_n dX4_letGo_161 rfl ?_
    refine e_iaddN dX4_letGo_162 ?_
    refine e_ild ((3 * hv) + 2) (((goF M hv 1 (goF M hv 0 (M.1))) (16 + 4 * hv + 1 + 2))) dX4_letGo_163 hr2 rfl (by omega) (by decide) (he2 hv (by omega) 2 (by decide)) ?_
    refine e_aload_n dX4_letGo_164 rfl ?_
    refine e_get dX4_letGo_165 fl_X4_72_4 hLo rfl ?_
    refine e_iload_n dX4_letGo_168 rfl ?_
    refine e_ild (2) ((M.2 2)) dX4_letGo_169 hAr rfl (by omega) (by decide) (hA2 _ (by decide)) ?_
    refine e_iadd dX4_letGo_170 ?_
    refine c_S1iR (N := mX4_held) dX4_letGo_171 ls_X4_182 mo_X4_held  (Nat.le_of_ble_eq_true rfl) (Nat.le_of_ble_eq_true rfl) (by decide) (k_held D ((((goF M hv 1 (goF M hv 0 (M.1))) (16 + 4 * hv + 1 + 2)) + (M.2 2)))) ?_
    obtain ⟨p9, hp9, hp8⟩ := hB 2 (by decide)
    refine e_top (chg ((goF M hv 1 (goF M hv 0 (M.1))) (16 + 4 * hv + 1 + 2)) (M.2 2).toInt64) (fin_eq (hI.2.2.2.1.1 hv (by omega) 2 (by decide)) hp9 (Nat.le_trans hp8 (by decide))) ?_
    refine e_ist (3 * hv + 2) dX4_letGo_174 hr2 rfl (by omega) (by decide) ?_
    have hLp : LB (h.set (a + 2) (.inl (0, 24, .inl (upd f2 (3 * hv + 2) (chg ((goF M hv 1 (goF M hv 0 (M.1))) (16 + 4 * hv + 1 + 2)) (M.2 2).toInt64))))) a (goF M hv 2 (goF M hv 1 (goF M hv 0 (M.1)))) := hL.pe hI hr2 (by omega) (by decide) _
    have hFp := hF.set (.inl (0, 24, .inl (upd f2 (3 * hv + 2) (chg ((goF M hv 1 (goF M hv 0 (M.1))) (16 + 4 * hv + 1 + 2)) (M.2 2).toInt64)))) (show a ≤ a + 2 ∧ a + 2 ≤ a + 11 by omega)
    have hI : IN (goF M hv 2 (goF M hv 1 (goF M hv 0 (M.1)))) := IN_pe hI (by omega) (by decide) (rg_chg _ _)
    have hJ : JW (goF M hv 2 (goF M hv 1 (goF M hv 0 (M.1)))) N := hJ.pe (by omega) (by decide) (rg_chg _ _)
    have hCrp : Row0 (h.set (a + 2) (.inl (0, 24, .inl (upd f2 (3 * hv + 2) (chg ((goF M hv 1 (goF M hv 0 (M.1))) (16 + 4 * hv + 1 + 2)) (M.2 2).toInt64))))) (a + 10) 8 C9 := getset hCr (by omega)
    have hArp : Row0 (h.set (a + 2) (.inl (0, 24, .inl (upd f2 (3 * hv + 2) (chg ((goF M hv 1 (goF M hv 0 (M.1))) (16 + 4 * hv + 1 + 2)) (M.2 2).toInt64))))) (a + 11) 3 A10 := getset hAr (by omega)
    obtain ⟨h, hh9⟩ : ∃ z, z = h.set (a + 2) (.inl (0, 24, .inl (upd f2 (3 * hv + 2) (chg ((goF M hv 1 (goF M hv 0 (M.1))) (16 + 4 * hv + 1 + 2)) (M.2 2).toInt64)))) := ⟨_, rfl⟩
    rw [← hh9] at hLp hFp hCrp hArp ⊢
    clear hh9
    have hL := hLp
    have hF := hFp
    have hCr := hCrp
    have hAr := hArp
    obtain ⟨hLo, ⟨f1, hr1, he1⟩, ⟨f2, hr2, he2⟩, ⟨f3, hr3, he3⟩, ⟨T4, hr4, he4⟩, ⟨f5, hr5, he5⟩, ⟨f6, hr6, he6⟩, ⟨f7, hr7, he7⟩, ⟨R8, hr8, he8⟩, ⟨f9, hr9⟩, ⟨f10, hr10⟩, ⟨fG, hrG, heG⟩⟩ := id hL.1
    have hY := hI.1
    have hnv := hY.2.1
    have htc10 := hY.2.2.2.1
    refine e_iincN 3 dX4_letGo_175 rfl (by decide) (nI_add 2 1) ?_
    refine e_goto 133 dX4_letGo_178 (by decide) ?_
    refine e_iload_n dX4_letGo_133 rfl ?_
    refine e_iconst (nI (3)) dX4_letGo_134 (by decide) ?_
    refine e_icmp_geN 181 dX4_letGo_135 (by decide) (by omega) (by omega) (fun hcq135 => ?_) (fun hcq135 => absurd hcq135 (by decide))
    have eG : goF M hv 2 (goF M hv 1 (goF M hv 0 (M.1))) = goR (txN N 1) C N (nvN N) := by unfold goR; rw [if_neg (by omega), ← hhv, ← hM]
    rw [eG] at hL hI hJ
    exact e_vret dX4_letGo_181 rfl (hp _ ⟨hL, hI, hF, hJ, hCr⟩)
set_option maxRecDepth 20000 in
theorem k_come (D : En) {h : AH} {a : Nat} {N : Nat → Int32} (hL : LB h a N) (hI : IN N) {C C9 : Nat → Int32} (hCr : Row0 h (a + 10) 8 C9) (hCe : ∀ w, w < nvN N → C9 w = C w) : Sp D 3 mX4_letCome [.ref a] h 0 0 none (fun h' => LB h' a (coW (txN N 2) C N (nvN N)) ∧ IN (coW (txN N 2) C N (nvN N)) ∧ FY a h h' ∧ JW (coW (txN N 2) C N (nvN N)) N) := by
  intro post hp
  show Ev D 3 mX4_letCome 0 [some (.ref a), none, none, none] [] h 0 0 post
  refine e_iconst (nI (0)) dX4_letCome_0 (by decide) ?_
  refine e_istore_n dX4_letCome_1 (by decide) ?_
  exact kl_come D (N0 := N) (N1 := N) (h0 := h) hCe (fun h' a1 a2 a3 a4 => hp h' ⟨a1, a2, a3, a4⟩) (nvN N) 0 h N (by omega) hL hI FY.rf (JW.rf hI.2.2.2.1) rfl hCr
theorem k_age (D : En) {h : AH} {a : Nat} {N : Nat → Int32} (hL : LB h a N) (hI : IN N) : Sp D 2 mX4_letAge [.ref a] h 0 0 none (fun h' => LB h' a (lvs N (nvN N)) ∧ IN (lvs N (nvN N)) ∧ FY a h h' ∧ JW (lvs N (nvN N)) N) := by
  intro post hp
  show Ev D 2 mX4_letAge 0 [some (.ref a), none, none, none, none, none, none, none, none, none] [] h 0 0 post
  refine e_iconst (nI (0)) dX4_letAge_0 (by decide) ?_
  refine e_istore_n dX4_letAge_1 (by decide) ?_
  exact kl_age D (N0 := N) (N1 := N) (h0 := h) (fun h' a1 a2 a3 a4 => hp h' ⟨a1, a2, a3, a4⟩) (nvN N) 0 h N (by omega) hL hI FY.rf (JW.rf hI.2.2.2.1) rfl
