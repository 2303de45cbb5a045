theorem goS_YW {M : (Nat → Int32) × (Nat → Int32)} {nv tc : Nat} {tx : Nat → List Nat} (hY : YW M.1 nv tc tx) (u : List Nat) (cv al : Int32) (v hv s : Nat) (hv8 : v < 8) (hs : s < 3) : YW (goS u cv al v hv s M).1 nv tc tx := YW_upd hY (FI_pe hv8 hs)
theorem goV_YW {N : Nat → Int32} {nv tc : Nat} {tx : Nat → List Nat} (hY : YW N nv tc tx) (u : List Nat) (C : Nat → Int32) (hv v : Nat) (hv8 : v ≤ 8) : YW (goV u C hv N v).1 nv tc tx := by
  induction v with
  | zero => exact hY
  | succ v ih =>
    rw [goV]
    exact goS_YW (goS_YW (goS_YW (ih (by omega)) u _ _ v hv 0 (by omega) (by decide)) u _ _ v hv 1 (by omega) (by decide)) u _ _ v hv 2 (by omega) (by decide)
theorem goR_YW {N : Nat → Int32} {nv tc : Nat} {tx : Nat → List Nat} (hY : YW N nv tc tx) (u : List Nat) (C : Nat → Int32) : YW (goR u C N nv) nv tc tx := by
  have hnv := hY.2.1
  unfold goR
  by_cases z : nv = 0
  · rw [if_pos z]; exact hY
  · rw [if_neg z]
    have h8 := havW_lt C nv (by omega)
    exact YW_upd (YW_upd (YW_upd (goV_YW hY u C _ nv hnv) (FI_pe (by omega) (by decide))) (FI_pe (by omega) (by decide))) (FI_pe (by omega) (by decide))
set_option maxRecDepth 20000 in
theorem s_year (D : En) {h : AH} {N : Nat → Int32} {σ : Nat → Nat → Int32} {τ : Nat → Int32} (hR : RefAt h N σ τ) {nv tc : Nat} {tx : Nat → List Nat} (hY : YW N nv tc tx) : Sp D 7 mX12_year [.ref (82)] h 0 0 (none) (fun h' => ∃ σ', RefAt h' (yearR (σ 4) N nv tc tx) σ' τ ∧ (∀ i, i ≠ 5 → i ≠ 8 → i ≠ 11 → σ' i = σ i) ∧ FrR h h') := by
  intro post hp
  show Ev D 7 mX12_year 0 [some (.ref (82)), none] [] h 0 0 post
  have hnv := hY.2.1
  have htc10 := hY.2.2.2.1
  obtain ⟨h00, hh00⟩ : ∃ z, z = h := ⟨_, rfl⟩
  have hF : FrR h00 h := by rw [hh00]; exact FrR.rf
  rw [← hh00] at hp
  refine e_aload_n dX12_year_0 rfl ?_
  refine c_V0v (N := mX12_shuts) dX12_year_1 lv_X12_261 mo_X12_shuts hR.cn (Nat.le_of_ble_eq_true rfl) (Nat.le_of_ble_eq_true rfl) (by decide) (s_shuts D hR hY) (fun h hP => ?_)
  obtain ⟨σ1, hR, hE1, hF1⟩ := hP
  have hF := hF.trans hF1
  have hY : YW (shW N nv (tx 0) tc) nv tc tx := shW_YW hY tc (Nat.le_refl _)
  refine e_aload_n dX12_year_4 rfl ?_
  refine c_V0v (N := mX12_findComforts) dX12_year_5 lv_X12_164 mo_X12_findComforts hR.cn (Nat.le_of_ble_eq_true rfl) (Nat.le_of_ble_eq_true rfl) (by decide) (s_comE D hR hY.1 hY.2.1 hY.2.2.1 hY.2.2.2.1 hY.2.2.2.2.1) (fun h hP => ?_)
  obtain ⟨σ2, hR, hE2, hC0, hF1⟩ := hP
  have hF := hF.trans hF1
  obtain ⟨C, hCd⟩ : ∃ z, z = comfR (σ 4) (shW N nv (tx 0) tc) nv tc := ⟨_, rfl⟩
  have hC : ∀ w, w < nv → σ2 5 w = C w := fun w hw => by rw [hC0 w hw, hE1 4 (by decide), hCd]
  refine e_aload_n dX12_year_8 rfl ?_
  refine c_V0v (N := mX12_goes) dX12_year_9 lv_X12_264 mo_X12_goes hR.cn (Nat.le_of_ble_eq_true rfl) (Nat.le_of_ble_eq_true rfl) (by decide) (s_goes D hR hY C hC) (fun h hP => ?_)
  obtain ⟨σ3, hR, hE3, hF1⟩ := hP
  have hF := hF.trans hF1
  have hE : ∀ i, i ≠ 5 → i ≠ 8 → i ≠ 11 → σ3 i = σ i := fun i z0 z1 z2 => (hE3 i z1 z2).trans ((hE2 i z0).trans (hE1 i z1))
  have hC : ∀ w, w < nv → σ3 5 w = C w := fun w hw => by rw [hE3 5 (by decide) (by decide)]; exact hC w hw
  have hY : YW (goR (tx 1) C (shW N nv (tx 0) tc) nv) nv tc tx := goR_YW hY _ C
  refine e_iconst (nI (0)) dX12_year_12 (by decide) ?_
  refine e_istore_n dX12_year_13 (by decide) ?_
  refine l_come D (N0 := goR (tx 1) C (shW N nv (tx 0) tc) nv) (σ0 := σ) (tc := tc) C (h0 := h00) (fun h σ4 hR hE hF hY => ?_) nv 0 h (goR (tx 1) C (shW N nv (tx 0) tc) nv) σ3 (by omega) hR hF hY rfl hE hC
  refine e_iconst (nI (0)) dX12_year_64 (by decide) ?_
  refine e_istore_n dX12_year_65 (by decide) ?_
  refine l_lives D (N0 := coW (tx 2) C (goR (tx 1) C (shW N nv (tx 0) tc) nv) nv) (σ0 := σ) (tc := tc) (h0 := h00) (fun h σ5 hR hE hF hY => ?_) nv 0 h (coW (tx 2) C (goR (tx 1) C (shW N nv (tx 0) tc) nv) nv) σ4 (by omega) hR hF hY rfl hE
  refine e_aload_n dX12_year_87 rfl ?_
  refine e_get dX12_year_88 fl_X12_9_12 hR.1 rfl ?_
  refine e_bipush (nI (12)) dX12_year_91 (by decide) ?_
  refine e_dup2 dX12_year_93 rfl rfl ?_
  refine e_ild (12) (((lvs (coW (tx 2) C (goR (tx 1) C (shW N nv (tx 0) tc) nv) nv) nv) (12))) dX12_year_94 hR.2.1 rfl (by omega) (by decide) rfl ?_
  refine e_aload_n dX12_year_95 rfl ?_
  refine e_get dX12_year_96 fl_X12_9_12 hR.1 rfl ?_
  refine e_bipush (nI (11)) dX12_year_99 (by decide) ?_
  refine e_ild (11) (((lvs (coW (tx 2) C (goR (tx 1) C (shW N nv (tx 0) tc) nv) nv) nv) (11))) dX12_year_101 hR.2.1 rfl (by omega) (by decide) rfl ?_
  refine e_iadd dX12_year_102 ?_
  refine r_stN (12) dX12_year_103 hR hF rfl (by omega) (fun h hR hF => ?_)
  refine e_iconst (nI (0)) dX12_year_104 (by decide) ?_
  refine e_istore_n dX12_year_105 (by decide) ?_
  refine l_costs D (N0 := lvs (coW (tx 2) C (goR (tx 1) C (shW N nv (tx 0) tc) nv) nv) nv) (σ0 := σ) (tc := tc) (h0 := h00) (fun h σ6 hR hE hF hY => ?_) tc 0 h (cstW (lvs (coW (tx 2) C (goR (tx 1) C (shW N nv (tx 0) tc) nv) nv) nv) 0) σ5 (by omega) hR hF (YW_upd hY FI_12) rfl hE
  refine e_aload_n dX12_year_150 rfl ?_
  refine e_get dX12_year_151 fl_X12_9_12 hR.1 rfl ?_
  refine e_iconst (nI (0)) dX12_year_154 (by decide) ?_
  refine e_dup2 dX12_year_155 rfl rfl ?_
  refine e_ild (0) (((cstW (lvs (coW (tx 2) C (goR (tx 1) C (shW N nv (tx 0) tc) nv) nv) nv) tc) (0))) dX12_year_156 hR.2.1 rfl (by omega) (by decide) rfl ?_
  refine e_iconst (nI (1)) dX12_year_157 (by decide) ?_
  refine e_iadd dX12_year_158 ?_
  refine r_stN (0) dX12_year_159 hR hF rfl (by omega) (fun h hR hF => ?_)
  exact e_vret dX12_year_160 rfl (hp _ ⟨σ6, by unfold yearR yeR; rw [← hCd]; exact hR, hE, hF⟩)
