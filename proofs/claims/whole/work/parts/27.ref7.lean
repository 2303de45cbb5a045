def coW (tx : List Nat) (C : Nat → Int32) (N : Nat → Int32) : Nat → (Nat → Int32)
  | 0 => N
  | v + 1 => upd (coW tx C N v) (16 + 4 * v + 1 + 1) (chg (coW tx C N v (16 + 4 * v + 1 + 1)) (allR (coW tx C N v) v * givenR tx 2 (C v) (allR (coW tx C N v) v) (nI 0) (nI 0) / nI 100).toInt64)
def lvs (N : Nat → Int32) : Nat → (Nat → Int32)
  | 0 => N
  | v + 1 => lvW (lvs N v) v
def cstW (N : Nat → Int32) : Nat → (Nat → Int32)
  | 0 => upd N 12 (N 12 + N 11)
  | t + 1 => upd (cstW N t) 12 (cstW N t 12 - (if cstW N t (112 + 7 * t + 5) = nI 1 then cstW N t (112 + 7 * t + 2) else nI 0))
theorem FI_12 : FI 12 := by unfold FI; omega
theorem FI_0 : FI 0 := by unfold FI; omega
theorem lvW_YW {N : Nat → Int32} {nv tc : Nat} {tx : Nat → List Nat} (hY : YW N nv tc tx) {v : Nat} (hv : v < 8) : YW (lvW N v) nv tc tx := YW_upd (YW_upd (YW_upd hY (FI_pe hv (by decide))) (FI_pe hv (by decide))) (FI_pe hv (by decide))
def yeR (G N : Nat → Int32) (nv tc : Nat) (tx : Nat → List Nat) : Nat → Int32 := cstW (lvs (coW (tx 2) (comfR G (shW N nv (tx 0) tc) nv tc) (goR (tx 1) (comfR G (shW N nv (tx 0) tc) nv tc) (shW N nv (tx 0) tc) nv) nv) nv) tc
def yearR (G N : Nat → Int32) (nv tc : Nat) (tx : Nat → List Nat) : Nat → Int32 := upd (yeR G N nv tc tx) 0 (yeR G N nv tc tx 0 + nI 1)
set_option maxRecDepth 20000 in
theorem l_come (D : En) {N0 : Nat → Int32} {σ0 : Nat → Nat → Int32} {τ : Nat → Int32} {nv tc : Nat} {tx : Nat → List Nat} {h0 : AH} {post : Option Value → AH → Prop} (C : Nat → Int32) (kk : ∀ h σ, RefAt h (coW (tx 2) C N0 nv) σ τ → (∀ i, i ≠ 5 → i ≠ 8 → i ≠ 11 → σ i = σ0 i) → FrR h0 h → YW (coW (tx 2) C N0 nv) nv tc tx → Ev D 7 mX12_year 64 [some (.ref 82), some (.int (nI nv))] [] h 0 0 post) : ∀ (n : Nat) (v : Nat) (h : AH) (N : Nat → Int32) (σ : Nat → Nat → Int32), (v + n = nv) → (RefAt h N σ τ) → (FrR h0 h) → (YW N nv tc tx) → (N = coW (tx 2) C N0 v) → (∀ i, i ≠ 5 → i ≠ 8 → i ≠ 11 → σ i = σ0 i) → (∀ w, w < nv → σ 5 w = C w) → Ev D 7 mX12_year 14 [some (.ref (82)), some (.int (nI (v)))] [] h 0 0 post := by
  intro n
  induction n with
  | zero =>
    intro v h N σ hm hR hF hY hN hE hC
    have hnv := hY.2.1
    have htc10 := hY.2.2.2.1
    obtain rfl : nv = v := by omega
    refine e_iload_n dX12_year_14 rfl ?_
    refine e_aload_n dX12_year_15 rfl ?_
    refine e_get dX12_year_16 fl_X12_9_12 hR.1 rfl ?_
    refine e_iconst (nI (1)) dX12_year_19 (by decide) ?_
    refine e_ild (1) (nI (nv)) dX12_year_20 hR.2.1 rfl (by omega) (by decide) hY.1 ?_
    refine e_icmp_geN 64 dX12_year_21 (by decide) (by omega) (by omega) (fun hcq21 => ?_) (fun hcq21 => absurd hcq21 (by omega))
    exact kk h σ (by rw [← hN]; exact hR) hE hF (by rw [← hN]; exact hY)
  | succ n ih =>
    intro v h N σ hm hR hF hY hN hE hC
    have hnv := hY.2.1
    have htc10 := hY.2.2.2.1
    refine e_iload_n dX12_year_14 rfl ?_
    refine e_aload_n dX12_year_15 rfl ?_
    refine e_get dX12_year_16 fl_X12_9_12 hR.1 rfl ?_
    refine e_iconst (nI (1)) dX12_year_19 (by decide) ?_
    refine e_ild (1) (nI (nv)) dX12_year_20 hR.2.1 rfl (by omega) (by decide) hY.1 ?_
    refine e_icmp_geN 64 dX12_year_21 (by decide) (by omega) (by omega) (fun hcq21 => absurd hcq21 (by omega)) (fun hcq21 => ?_)
    refine e_aload_n dX12_year_24 rfl ?_
    refine e_iload_n dX12_year_25 rfl ?_
    refine e_iconst (nI (1)) dX12_year_26 (by decide) ?_
    refine e_aload_n dX12_year_27 rfl ?_
    refine e_iload_n dX12_year_28 rfl ?_
    refine c_V1iR (N := mX12_allOf) dX12_year_29 lv_X12_107 mo_X12_allOf hR.cn (Nat.le_of_ble_eq_true rfl) (Nat.le_of_ble_eq_true rfl) (by decide) (s_allOf D hR (v) (by omega)) ?_
    refine e_aload_n dX12_year_32 rfl ?_
    refine e_iconst (nI (2)) dX12_year_33 (by decide) ?_
    refine e_aload_n dX12_year_34 rfl ?_
    refine e_get dX12_year_35 fl_X12_25_12 hR.1 rfl ?_
    refine e_iload_n dX12_year_38 rfl ?_
    refine e_ild (v) ((C v)) dX12_year_39 (hR.2.2.1 5 (by decide) (by decide) (by decide)) rfl (by show _ < 8; omega) (by decide) (hC v (by omega)) ?_
    refine e_aload_n dX12_year_40 rfl ?_
    refine e_iload_n dX12_year_41 rfl ?_
    refine c_V1iR (N := mX12_allOf) dX12_year_42 lv_X12_107 mo_X12_allOf hR.cn (Nat.le_of_ble_eq_true rfl) (Nat.le_of_ble_eq_true rfl) (by decide) (s_allOf D hR (v) (by omega)) ?_
    refine e_iconst (nI (0)) dX12_year_45 (by decide) ?_
    refine e_iconst (nI (0)) dX12_year_46 (by decide) ?_
    refine c_V5i (N := mX12_given) dX12_year_47 lv_X12_243 mo_X12_given hR.cn (Nat.le_of_ble_eq_true rfl) (Nat.le_of_ble_eq_true rfl) (by decide) (s_givenE D hR 2 (by decide) (tx 2) (hY.2.2.2.2.2 2 (by decide)) _ _ _ _) (fun h hP => ?_)
    obtain ⟨σ, hR, hE1, hF1⟩ := hP
    have hF := hF.trans hF1
    have hE : ∀ i, i ≠ 5 → i ≠ 8 → i ≠ 11 → σ i = σ0 i := fun i z0 z1 z2 => (hE1 i z1).trans (hE i z0 z1 z2)
    have hC : ∀ w, w < nv → σ 5 w = C w := fun w hw => by rw [hE1 5 (by decide)]; exact hC w hw
    refine e_imul dX12_year_50 ?_
    refine e_bipush (nI (100)) dX12_year_51 (by decide) ?_
    refine e_idiv dX12_year_53 (by decide) ?_
    refine e_i2l dX12_year_54 ?_
    refine c_V3v (N := mX12_change) dX12_year_55 lv_X12_257 mo_X12_change hR.cn (Nat.le_of_ble_eq_true rfl) (Nat.le_of_ble_eq_true rfl) (by decide) (s_change D hR (v) (1) (by omega) (by omega) _) (fun h hP => ?_)
    obtain ⟨hR, hF1⟩ := hP
    have hF := hF.trans hF1
    refine e_iincN (v + 1) dX12_year_58 rfl (by decide) (nI_add _ _) ?_
    refine e_goto 14 dX12_year_61 (by decide) ?_
    exact ih (v + 1) h _ σ (by omega) hR hF (YW_upd hY (FI_pe (by omega) (by decide))) (by rw [coW, ← hN]) hE hC
set_option maxRecDepth 20000 in
theorem l_lives (D : En) {N0 : Nat → Int32} {σ0 : Nat → Nat → Int32} {τ : Nat → Int32} {nv tc : Nat} {tx : Nat → List Nat} {h0 : AH} {post : Option Value → AH → Prop} (kk : ∀ h σ, RefAt h (lvs N0 nv) σ τ → (∀ i, i ≠ 5 → i ≠ 8 → i ≠ 11 → σ i = σ0 i) → FrR h0 h → YW (lvs N0 nv) nv tc tx → Ev D 7 mX12_year 87 [some (.ref 82), some (.int (nI nv))] [] h 0 0 post) : ∀ (n : Nat) (v : Nat) (h : AH) (N : Nat → Int32) (σ : Nat → Nat → Int32), (v + n = nv) → (RefAt h N σ τ) → (FrR h0 h) → (YW N nv tc tx) → (N = lvs N0 v) → (∀ i, i ≠ 5 → i ≠ 8 → i ≠ 11 → σ i = σ0 i) → Ev D 7 mX12_year 66 [some (.ref (82)), some (.int (nI (v)))] [] h 0 0 post := by
  intro n
  induction n with
  | zero =>
    intro v h N σ hm hR hF hY hN hE
    have hnv := hY.2.1
    have htc10 := hY.2.2.2.1
    obtain rfl : nv = v := by omega
    refine e_iload_n dX12_year_66 rfl ?_
    refine e_aload_n dX12_year_67 rfl ?_
    refine e_get dX12_year_68 fl_X12_9_12 hR.1 rfl ?_
    refine e_iconst (nI (1)) dX12_year_71 (by decide) ?_
    refine e_ild (1) (nI (nv)) dX12_year_72 hR.2.1 rfl (by omega) (by decide) hY.1 ?_
    refine e_icmp_geN 87 dX12_year_73 (by decide) (by omega) (by omega) (fun hcq73 => ?_) (fun hcq73 => absurd hcq73 (by omega))
    exact kk h σ (by rw [← hN]; exact hR) hE hF (by rw [← hN]; exact hY)
  | succ n ih =>
    intro v h N σ hm hR hF hY hN hE
    have hnv := hY.2.1
    have htc10 := hY.2.2.2.1
    refine e_iload_n dX12_year_66 rfl ?_
    refine e_aload_n dX12_year_67 rfl ?_
    refine e_get dX12_year_68 fl_X12_9_12 hR.1 rfl ?_
    refine e_iconst (nI (1)) dX12_year_71 (by decide) ?_
    refine e_ild (1) (nI (nv)) dX12_year_72 hR.2.1 rfl (by omega) (by decide) hY.1 ?_
    refine e_icmp_geN 87 dX12_year_73 (by decide) (by omega) (by omega) (fun hcq73 => absurd hcq73 (by omega)) (fun hcq73 => ?_)
    refine e_aload_n dX12_year_76 rfl ?_
    refine e_iload_n dX12_year_77 rfl ?_
    refine c_V1v (N := mX12_livesOn) dX12_year_78 lv_X12_267 mo_X12_livesOn hR.cn (Nat.le_of_ble_eq_true rfl) (Nat.le_of_ble_eq_true rfl) (by decide) (s_livesOn D hR (v) (by omega)) (fun h hP => ?_)
    obtain ⟨hR, hF1⟩ := hP
    have hF := hF.trans hF1
    refine e_iincN (v + 1) dX12_year_81 rfl (by decide) (nI_add _ _) ?_
    refine e_goto 66 dX12_year_84 (by decide) ?_
    exact ih (v + 1) h _ σ (by omega) hR hF (lvW_YW hY (by omega)) (by rw [lvs, ← hN]) hE
set_option maxRecDepth 20000 in
theorem l_costs (D : En) {N0 : Nat → Int32} {σ0 : Nat → Nat → Int32} {τ : Nat → Int32} {nv tc : Nat} {tx : Nat → List Nat} {h0 : AH} {post : Option Value → AH → Prop} (kk : ∀ h σ, RefAt h (cstW N0 tc) σ τ → (∀ i, i ≠ 5 → i ≠ 8 → i ≠ 11 → σ i = σ0 i) → FrR h0 h → YW (cstW N0 tc) nv tc tx → Ev D 7 mX12_year 150 [some (.ref 82), some (.int (nI tc))] [] h 0 0 post) : ∀ (n : Nat) (t : Nat) (h : AH) (N : Nat → Int32) (σ : Nat → Nat → Int32), (t + n = tc) → (RefAt h N σ τ) → (FrR h0 h) → (YW N nv tc tx) → (N = cstW N0 t) → (∀ i, i ≠ 5 → i ≠ 8 → i ≠ 11 → σ i = σ0 i) → Ev D 7 mX12_year 106 [some (.ref (82)), some (.int (nI (t)))] [] h 0 0 post := by
  intro n
  induction n with
  | zero =>
    intro t h N σ hm hR hF hY hN hE
    have hnv := hY.2.1
    have htc10 := hY.2.2.2.1
    obtain rfl : tc = t := by omega
    refine e_iload_n dX12_year_106 rfl ?_
    refine e_aload_n dX12_year_107 rfl ?_
    refine e_get dX12_year_108 fl_X12_9_12 hR.1 rfl ?_
    refine e_iconst (nI (2)) dX12_year_111 (by decide) ?_
    refine e_ild (2) (nI (tc)) dX12_year_112 hR.2.1 rfl (by omega) (by decide) hY.2.2.1 ?_
    refine e_icmp_geN 150 dX12_year_113 (by decide) (by omega) (by omega) (fun hcq113 => ?_) (fun hcq113 => absurd hcq113 (by omega))
    exact kk h σ (by rw [← hN]; exact hR) hE hF (by rw [← hN]; exact hY)
  | succ n ih =>
    intro t h N σ hm hR hF hY hN hE
    have hnv := hY.2.1
    have htc10 := hY.2.2.2.1
    refine e_iload_n dX12_year_106 rfl ?_
    refine e_aload_n dX12_year_107 rfl ?_
    refine e_get dX12_year_108 fl_X12_9_12 hR.1 rfl ?_
    refine e_iconst (nI (2)) dX12_year_111 (by decide) ?_
    refine e_ild (2) (nI (tc)) dX12_year_112 hR.2.1 rfl (by omega) (by decide) hY.2.2.1 ?_
    refine e_icmp_geN 150 dX12_year_113 (by decide) (by omega) (by omega) (fun hcq113 => absurd hcq113 (by omega)) (fun hcq113 => ?_)
    refine e_aload_n dX12_year_116 rfl ?_
    refine e_get dX12_year_117 fl_X12_9_12 hR.1 rfl ?_
    refine e_bipush (nI (12)) dX12_year_120 (by decide) ?_
    refine e_dup2 dX12_year_122 rfl rfl ?_
    refine e_ild (12) ((N (12))) dX12_year_123 hR.2.1 rfl (by omega) (by decide) rfl ?_
    refine e_aload_n dX12_year_124 rfl ?_
    refine e_iload_n dX12_year_125 rfl ?_
    refine c_V1iR (N := mX12_isOpen) dX12_year_126 lv_X12_158 mo_X12_isOpen hR.cn (Nat.le_of_ble_eq_true rfl) (Nat.le_of_ble_eq_true rfl) (by decide) (s_isOpen D hR (t) (by omega)) ?_
    have K1 : Ev D 7 mX12_year 142 [some (.ref (82)), some (.int (nI (t)))] [.int (if N (112 + 7 * t + 5) = nI 1 then N (112 + 7 * t + 2) else nI 0), .int (N (12)), .int (nI (12)), .ref (83)] h 0 0 post := by
      refine e_isub dX12_year_142 ?_
      refine r_stN (12) dX12_year_143 hR hF rfl (by omega) (fun h hR hF => ?_)
      refine e_iincN (t + 1) dX12_year_144 rfl (by decide) (nI_add _ _) ?_
      refine e_goto 106 dX12_year_147 (by decide) ?_
      exact ih (t + 1) h _ σ (by omega) hR hF (YW_upd hY FI_12) (by rw [cstW, ← hN]) hE
    refine e_if_eqB 141 dX12_year_129 (by decide) (fun hcq129 => ?_) (fun hcq129 => ?_)
    · refine e_iconst (nI (0)) dX12_year_141 (by decide) ?_
      exact e_top ((if N (112 + 7 * t + 5) = nI 1 then N (112 + 7 * t + 2) else nI 0)) (by first | exact (if_pos (by assumption)).symm | exact (if_neg (by assumption)).symm | exact (b2_t (by assumption)).symm | exact (b2_f (by assumption)).symm | simp_all [b2]) K1
    · refine e_aload_n dX12_year_132 rfl ?_
      refine e_iload_n dX12_year_133 rfl ?_
      refine e_iconst (nI (2)) dX12_year_134 (by decide) ?_
      refine c_V2iR (N := mX12_thing) dX12_year_135 lv_X12_136 mo_X12_thing hR.cn (Nat.le_of_ble_eq_true rfl) (Nat.le_of_ble_eq_true rfl) (by decide) (s_thing D hR (t) (2) (by omega) (by omega)) ?_
      refine e_goto 142 dX12_year_138 (by decide) ?_
      exact e_top ((if N (112 + 7 * t + 5) = nI 1 then N (112 + 7 * t + 2) else nI 0)) (by first | exact (if_pos (by assumption)).symm | exact (if_neg (by assumption)).symm | exact (b2_t (by assumption)).symm | exact (b2_f (by assumption)).symm | simp_all [b2]) K1
