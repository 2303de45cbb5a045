set_option maxRecDepth 20000 in
theorem lp_restA (D : En) {s : SS} {τ : Nat → Int32} {h00 : AH} (hI : INV s) {post : Option Value → AH → Prop} {σ0 : Nat → Nat → Int32} {M : Nat → Int32} (n : Int32) (k : Nat) (kk : ∀ h' B', RefAt h' M (va_up σ0 12 B') τ → FrR h00 h' → (∀ w, w < 32 → B' w = M (16 + w)) → Ev D 8 mX12_rest 74 [some (.ref 82), some (.int n), some (.int (nI 0)), some (.int (nI k)), none] [] h' 0 0 post) : ∀ (j : Nat) (i : Nat) (h : AH) (B : Nat → Int32), (i + j = 32) → (RefAt h M (va_up σ0 12 B) τ) → (FrR h00 h) → (∀ w, w < i → B w = M (16 + w)) → Ev D 8 mX12_rest 44 [some (.ref (82)), some (.int (n)), some (.int (nI (0))), some (.int (nI (k))), some (.int (nI (i)))] [] h 0 0 post := by
  intro j
  induction j with
  | zero =>
    intro i h B hm hR hF hB
    refine e_iload dX12_rest_44 rfl ?_
    refine e_bipush (nI (32)) dX12_rest_46 (by decide) ?_
    refine e_icmp_geN 74 dX12_rest_48 (by decide) (by omega) (by omega) (fun hcq48 => ?_) (fun hcq48 => absurd hcq48 (by omega))
    rw [show i = 32 by omega] at hB
    exact Ev.drop 4 (kk h B hR hF hB)
  | succ j ih =>
    intro i h B hm hR hF hB
    refine e_iload dX12_rest_44 rfl ?_
    refine e_bipush (nI (32)) dX12_rest_46 (by decide) ?_
    refine e_icmp_geN 74 dX12_rest_48 (by decide) (by omega) (by omega) (fun hcq48 => absurd hcq48 (by omega)) (fun hcq48 => ?_)
    refine e_aload_n dX12_rest_51 rfl ?_
    refine e_get dX12_rest_52 fl_X12_57_12 hR.1 rfl ?_
    refine e_iload dX12_rest_55 rfl ?_
    refine e_aload_n dX12_rest_57 rfl ?_
    refine e_get dX12_rest_58 fl_X12_9_12 hR.1 rfl ?_
    refine e_bipush (nI (16)) dX12_rest_61 (by decide) ?_
    refine e_iload dX12_rest_63 rfl ?_
    refine e_iaddN dX12_rest_65 ?_
    refine e_ild (16 + i) ((M (16 + i))) dX12_rest_66 hR.2.1 rfl (by omega) (by decide) rfl ?_
    refine r_st 12 (i) dX12_rest_67 hR hF rfl (by decide) rfl (by show _ < 32; omega) (fun h hR hF => ?_)
    rw [va_upUp, va_upS] at hR
    refine e_iincN (i + 1) dX12_rest_68 rfl (by decide) (nI_add _ _) ?_
    refine e_goto 44 dX12_rest_71 (by decide) ?_
    exact ih (i + 1) h _ (by omega) hR hF (fun w hw => by
      by_cases e9 : w = i
      · rw [e9, pk_us]
      · rw [pk_un e9]; exact hB w (by omega))
set_option maxRecDepth 20000 in
theorem lp_restB (D : En) {s : SS} {τ : Nat → Int32} {h00 : AH} (hI : INV s) {post : Option Value → AH → Prop} {h : AH} {σ : Nat → Nat → Int32} {M A : Nat → Int32} (hR : RefAt h M σ τ) (hY : YW M (nvN (sN s)) (tcN (sN s)) (txN (sN s))) (hB : ∀ w, w < 32 → σ 12 w = A (16 + w)) (n : Int32) (k : Nat) (kk : Ev D 8 mX12_rest 135 [some (.ref 82), some (.int n), some (.int (b2 (eqR A M (4 * nvN (sN s)) = true))), some (.int (nI k)), none] [] h 0 0 post) : ∀ (j : Nat) (i : Nat), (i + j = 4 * nvN (sN s)) → Ev D 8 mX12_rest 86 [some (.ref (82)), some (.int (n)), some (.int (b2 (eqR A M i = true))), some (.int (nI (k))), some (.int (nI (i)))] [] h 0 0 post := by
  intro j
  induction j with
  | zero =>
    intro i hm
    have hnv := hY.2.1
    refine e_iload dX12_rest_86 rfl ?_
    refine e_iconst (nI (4)) dX12_rest_88 (by decide) ?_
    refine e_aload_n dX12_rest_89 rfl ?_
    refine e_get dX12_rest_90 fl_X12_9_12 hR.1 rfl ?_
    refine e_iconst (nI (1)) dX12_rest_93 (by decide) ?_
    refine e_ild (1) (nI (nvN (sN s))) dX12_rest_94 hR.2.1 rfl (by omega) (by decide) hY.1 ?_
    refine e_imulN dX12_rest_95 ?_
    refine e_icmp_geN 135 dX12_rest_96 (by decide) (by omega) (by omega) (fun hcq96 => ?_) (fun hcq96 => absurd hcq96 (by omega))
    rw [show i = 4 * nvN (sN s) by omega]
    exact Ev.drop 4 kk
  | succ j ih =>
    intro i hm
    have hnv := hY.2.1
    refine e_iload dX12_rest_86 rfl ?_
    refine e_iconst (nI (4)) dX12_rest_88 (by decide) ?_
    refine e_aload_n dX12_rest_89 rfl ?_
    refine e_get dX12_rest_90 fl_X12_9_12 hR.1 rfl ?_
    refine e_iconst (nI (1)) dX12_rest_93 (by decide) ?_
    refine e_ild (1) (nI (nvN (sN s))) dX12_rest_94 hR.2.1 rfl (by omega) (by decide) hY.1 ?_
    refine e_imulN dX12_rest_95 ?_
    refine e_icmp_geN 135 dX12_rest_96 (by decide) (by omega) (by omega) (fun hcq96 => absurd hcq96 (by omega)) (fun hcq96 => ?_)
    refine e_iload_n dX12_rest_99 rfl ?_
    refine e_if_eqB 127 dX12_rest_100 (by decide) (fun hcq100 => ?_) (fun hcq100 => ?_)
    · refine e_iconst (nI (0)) dX12_rest_127 (by decide) ?_
      refine e_top (b2 (eqR A M (i + 1) = true)) (by first | exact (b2_t (by rw [eqR, hcq100, decide_eq_true hcq120]; rfl)).symm | exact (b2_f (by rw [eqR, hcq100, decide_eq_false hcq120]; decide)).symm | exact (b2_f (by rw [eqR, eq_false_of_ne_true hcq100]; simp)).symm) ?_
      refine e_istore_n dX12_rest_128 (by decide) ?_
      refine e_iincN (i + 1) dX12_rest_129 rfl (by decide) (nI_add _ _) ?_
      refine e_goto 86 dX12_rest_132 (by decide) ?_
      exact ih (i + 1) (by omega)
    · refine e_aload_n dX12_rest_103 rfl ?_
      refine e_get dX12_rest_104 fl_X12_57_12 hR.1 rfl ?_
      refine e_iload dX12_rest_107 rfl ?_
      refine e_ild (i) ((A (16 + i))) dX12_rest_109 (hR.2.2.1 12 (by decide) (by decide) (by decide)) rfl (by show _ < 32; omega) (by decide) (hB _ (by omega)) ?_
      refine e_aload_n dX12_rest_110 rfl ?_
      refine e_get dX12_rest_111 fl_X12_9_12 hR.1 rfl ?_
      refine e_bipush (nI (16)) dX12_rest_114 (by decide) ?_
      refine e_iload dX12_rest_116 rfl ?_
      refine e_iaddN dX12_rest_118 ?_
      refine e_ild (16 + i) ((M (16 + i))) dX12_rest_119 hR.2.1 rfl (by omega) (by decide) rfl ?_
      refine e_icmp_ne 127 dX12_rest_120 (by decide) (fun hcq120 => ?_) (fun hcq120 => ?_)
      · refine e_iconst (nI (0)) dX12_rest_127 (by decide) ?_
        refine e_top (b2 (eqR A M (i + 1) = true)) (by first | exact (b2_t (by rw [eqR, hcq100, decide_eq_true hcq120]; rfl)).symm | exact (b2_f (by rw [eqR, hcq100, decide_eq_false hcq120]; decide)).symm | exact (b2_f (by rw [eqR, eq_false_of_ne_true hcq100]; simp)).symm) ?_
        refine e_istore_n dX12_rest_128 (by decide) ?_
        refine e_iincN (i + 1) dX12_rest_129 rfl (by decide) (nI_add _ _) ?_
        refine e_goto 86 dX12_rest_132 (by decide) ?_
        exact ih (i + 1) (by omega)
      · refine e_iconst (nI (1)) dX12_rest_123 (by decide) ?_
        refine e_goto 128 dX12_rest_124 (by decide) ?_
        refine e_top (b2 (eqR A M (i + 1) = true)) (by first | exact (b2_t (by rw [eqR, hcq100, decide_eq_true hcq120]; rfl)).symm | exact (b2_f (by rw [eqR, hcq100, decide_eq_false hcq120]; decide)).symm | exact (b2_f (by rw [eqR, eq_false_of_ne_true hcq100]; simp)).symm) ?_
        refine e_istore_n dX12_rest_128 (by decide) ?_
        refine e_iincN (i + 1) dX12_rest_129 rfl (by decide) (nI_add _ _) ?_
        refine e_goto 86 dX12_rest_132 (by decide) ?_
        exact ih (i + 1) (by omega)
set_option maxRecDepth 20000 in
theorem lp_rest (D : En) {s : SS} {τ : Nat → Int32} {h00 : AH} (hI : INV s) {post : Option Value → AH → Prop} (n : Int32) (hn_n : n = nI (tn n)) (hl_n : tn n ≤ 40) (k0 : ∀ h σ, RefAt h (yrX (sN s) (sN s) (tn n)) σ τ → FrR h00 h → RS σ τ s → σ 2 = sN s → fsP (rsP (sN s)) (tn n) 0 = tn n → Ev D 8 mX12_rest 138 [some (.ref 82), some (.int n), some (.int (nI 0)), some (.int (nI (tn n))), none] [] h 0 0 post) (k1 : ∀ k h σ, k < tn n → RefAt h (yrX (sN s) (sN s) (k + 1)) σ τ → FrR h00 h → RS σ τ s → σ 2 = sN s → fsP (rsP (sN s)) (tn n) 0 = k → Ev D 8 mX12_rest 138 [some (.ref 82), some (.int n), some (.int (nI 1)), some (.int (nI (k + 1))), none] [] h 0 0 post) : ∀ (j : Nat) (k : Nat) (h : AH) (σ : Nat → Nat → Int32), (k + j = tn n) → (RefAt h (yrX (sN s) (sN s) k) σ τ) → (FrR h00 h) → (RS σ τ s) → (σ 2 = sN s) → (fsP (rsP (sN s)) (tn n) 0 = fsP (rsP (sN s)) j k) → Ev D 8 mX12_rest 32 [some (.ref (82)), some (.int (n)), some (.int (nI (0))), some (.int (nI (k))), none] [] h 0 0 post := by
  intro j
  induction j with
  | zero =>
    intro k h σ hm hR hF hS hA2 hfs
    have hY0 := hI.1.1
    have hY : YW (yrX (sN s) (sN s) k) (nvN (sN s)) (tcN (sN s)) (txN (sN s)) := yrsR_YW G0 hY0 k
    have hnv := hY.2.1
    refine e_iload_n dX12_rest_32 rfl ?_
    refine e_iload_n dX12_rest_33 rfl ?_
    refine e_top (nI (tn n)) (hn_n) ?_
    refine e_icmp_geN 138 dX12_rest_34 (by decide) (by omega) (by omega) (fun hcq34 => ?_) (fun hcq34 => absurd hcq34 (by omega))
    rw [show k = tn n by omega] at hR hfs ⊢
    exact k0 h σ hR hF hS hA2 hfs
  | succ j ih =>
    intro k h σ hm hR hF hS hA2 hfs
    have hY0 := hI.1.1
    have hY : YW (yrX (sN s) (sN s) k) (nvN (sN s)) (tcN (sN s)) (txN (sN s)) := yrsR_YW G0 hY0 k
    have hnv := hY.2.1
    refine e_iload_n dX12_rest_32 rfl ?_
    refine e_iload_n dX12_rest_33 rfl ?_
    refine e_top (nI (tn n)) (hn_n) ?_
    refine e_icmp_geN 138 dX12_rest_34 (by decide) (by omega) (by omega) (fun hcq34 => absurd hcq34 (by omega)) (fun hcq34 => ?_)
    refine e_iload_n dX12_rest_37 rfl ?_
    refine e_if_neN 138 dX12_rest_38 (by decide) (by omega) (fun hcq38 => absurd hcq38 (by decide)) (fun hcq38 => ?_)
    refine e_iconst (nI (0)) dX12_rest_41 (by decide) ?_
    refine e_istore dX12_rest_42 (by decide) ?_
    refine lp_restA D hI (h00 := h00) (σ0 := σ) n k (fun h B hR hF hB => ?_) 32 0 h (σ 12) (by omega) (by rw [upSelf]; exact hR) hF (fun w hw => absurd hw (Nat.not_lt_zero w))
    obtain ⟨σ, hR, hA2, hS, hB⟩ : ∃ z, RefAt h (yrX (sN s) (sN s) k) z τ ∧ z 2 = sN s ∧ RS z τ s ∧ ∀ w, w < 32 → z 12 w = yrX (sN s) (sN s) k (16 + w) := ⟨_, hR, hA2, hS.to (fun i hi => va_upN _ _ hi.2.2.2.2.2.1) rfl rfl, fun w hw => by rw [va_upS]; exact hB w hw⟩
    refine e_aload_n dX12_rest_74 rfl ?_
    refine c_V0v (nc := 0) (ns := 0) (mc := 0) (ms := 0) (N := mX12_year) dX12_rest_75 lv_X12_271 mo_X12_year hR.cn (Nat.le_of_ble_eq_true rfl) (Nat.le_of_ble_eq_true rfl) (by decide) (s_year D hR hY) (fun h hP => ?_)
    have hG9 := hS.2.1.1
    obtain ⟨σ, hR, hE1, hF1⟩ := hP
    have hF := hF.trans hF1
    rw [hG9] at hR
    have hR : RefAt h (yrX (sN s) (sN s) (k + 1)) σ τ := hR
    have hA2 := (hE1 2 (by decide) (by decide) (by decide)).trans hA2
    have hS := hS.to (fun i hi => hE1 i hi.2.1 hi.2.2.2.1 hi.2.2.2.2.1) rfl rfl
    have hY : YW (yrX (sN s) (sN s) (k + 1)) (nvN (sN s)) (tcN (sN s)) (txN (sN s)) := yrsR_YW G0 hY0 _
    have hB : ∀ w, w < 32 → σ 12 w = yrX (sN s) (sN s) k (16 + w) := fun w hw => by rw [hE1 12 (by decide) (by decide) (by decide)]; exact hB w hw
    refine e_iincN (k + 1) dX12_rest_78 rfl (by decide) (nI_add _ _) ?_
    refine e_iconst (nI (1)) dX12_rest_81 (by decide) ?_
    refine e_istore_n dX12_rest_82 (by decide) ?_
    refine e_iconst (nI (0)) dX12_rest_83 (by decide) ?_
    refine e_istore dX12_rest_84 (by decide) ?_
    refine lp_restB D hI (h00 := h00) (A := yrX (sN s) (sN s) k) hR hY hB n (k + 1) ?_ (4 * nvN (sN s)) 0 (by omega)
    refine e_goto 32 dX12_rest_135 (by decide) ?_
    by_cases hqe : rsP (sN s) k = true
    · rw [show b2 (eqR (yrX (sN s) (sN s) k) (yrX (sN s) (sN s) (k + 1)) (4 * nvN (sN s)) = true) = nI 1 from b2_t hqe]
      refine e_iload_n dX12_rest_32 rfl ?_
      refine e_iload_n dX12_rest_33 rfl ?_
      refine e_top (nI (tn n)) (hn_n) ?_
      refine e_icmp_geN 138 dX12_rest_34 (by decide) (by omega) (by omega) (fun hcq34 => ?_) (fun hcq34 => ?_)
      · exact k1 k h σ (by omega) hR hF hS hA2 (by rw [hfs, fsP, if_pos hqe])
      · refine e_iload_n dX12_rest_37 rfl ?_
        refine e_if_neN 138 dX12_rest_38 (by decide) (by omega) (fun hcq38 => ?_) (fun hcq38 => absurd hcq38 (by decide))
        exact k1 k h σ (by omega) hR hF hS hA2 (by rw [hfs, fsP, if_pos hqe])
    · rw [show b2 (eqR (yrX (sN s) (sN s) k) (yrX (sN s) (sN s) (k + 1)) (4 * nvN (sN s)) = true) = nI 0 from b2_f hqe]
      exact ih (k + 1) h σ (by omega) hR hF hS hA2 (by rw [hfs, fsP, if_neg hqe])
    skip
set_option maxRecDepth 20000 in
theorem rp_rest (D : En) {h : AH} {s : SS} (hI : INV s) (hRS : RefS h s) (n : Int32) : Sp D 8 mX12_rest [.ref (82), .int (n)] h 0 0 (some (.int (f_rest s n).1)) (fun h' => RefS h' (f_rest s n).2 ∧ FrR h h') := by
  obtain ⟨σ, τ, hR, hS⟩ := hRS
  have hY := hI.1.1
  have hnv := hY.2.1
  have htc10 := hY.2.2.2.1
  obtain ⟨h00, hh00⟩ : ∃ z, z = h := ⟨_, rfl⟩
  have hF : FrR h00 h := by rw [hh00]; exact FrR.rf
  intro post hp
  rw [← hh00] at hp
  show Ev D 8 mX12_rest 0 [some (.ref (82)), some (.int (n)), none, none, none] [] h 0 0 post
  refine e_iload_n dX12_rest_0 rfl ?_
  refine e_iconst (nI (1)) dX12_rest_1 (by decide) ?_
  refine e_bipush (nI (40)) dX12_rest_2 (by decide) ?_
  refine c_S3iR (N := mX12_within) dX12_rest_4 ls_X12_76 mo_X12_within  (Nat.le_of_ble_eq_true rfl) (Nat.le_of_ble_eq_true rfl) (by decide) (s_within D ((n)) (nI (1)) (nI (40))) ?_
  refine e_if_neB 17 dX12_rest_7 (by decide) (fun hcq7 => ?_) (fun hcq7 => ?_)
  · obtain ⟨hn_n, hg_n, hl_n⟩ := wiN hcq7 (by decide) (by decide)
    refine e_aload_n dX12_rest_17 rfl ?_
    refine e_get dX12_rest_18 fl_X12_9_12 hR.1 rfl ?_
    refine e_aload_n dX12_rest_21 rfl ?_
    refine e_get dX12_rest_22 fl_X12_16_12 hR.1 rfl ?_
    refine c_S2v (nc := 0) (ns := 0) (mc := 0) (ms := 0) (N := mX12_copy) dX12_rest_25 ls_X12_277 mo_X12_copy  (Nat.le_of_ble_eq_true rfl) (Nat.le_of_ble_eq_true rfl) (by decide) (s_copyNA D hR) (fun h hP => ?_)
    obtain ⟨hR, hF1⟩ := hP
    have hF := hF.trans hF1
    obtain ⟨σ, hR, hA2, hS⟩ : ∃ z, RefAt h (sN s) z τ ∧ z 2 = sN s ∧ RS z τ s := ⟨_, hR, va_upS _ _ _, hS.to (fun i hi => va_upN _ _ hi.1) rfl rfl⟩
    refine e_iconst (nI (0)) dX12_rest_28 (by decide) ?_
    refine e_istore_n dX12_rest_29 (by decide) ?_
    refine e_iconst (nI (0)) dX12_rest_30 (by decide) ?_
    refine e_istore_n dX12_rest_31 (by decide) ?_
    refine lp_rest D hI (h00 := h00) n hn_n (by omega) (fun h σ hR hF hS hA2 hfs => ?_) (fun k h σ hkn hR hF hS hA2 hfs => ?_) (tn n) 0 h σ (by omega) hR hF hS hA2 rfl
    · refine e_aload_n dX12_rest_138 rfl ?_
      refine e_iconst (nI (0)) dX12_rest_139 (by decide) ?_
      refine c_V1i (nc := 0) (ns := 0) (mc := 0) (ms := 0) (N := mX12_back) dX12_rest_140 lv_X12_290 mo_X12_back hR.cn (Nat.le_of_ble_eq_true rfl) (Nat.le_of_ble_eq_true rfl) (by decide) (s_back D hR (nI (0))) (fun h hP => ?_)
      obtain ⟨hR, hF1⟩ := hP
      have hF := hF.trans hF1
      rw [hA2] at hR
      have hY := hI.1.1
      refine e_if_neN 154 dX12_rest_143 (by decide) (by omega) (fun hcq143 => absurd hcq143 (by decide)) (fun hcq143 => ?_)
      refine e_iload_n dX12_rest_146 rfl ?_
      refine e_if_eqN 154 dX12_rest_147 (by decide) (by omega) (fun hcq147 => ?_) (fun hcq147 => absurd hcq147 (by decide))
      refine e_aload_n dX12_rest_154 rfl ?_
      refine e_ldc dX12_rest_155 w_1340 ?_
      refine c_V1i (nc := 0) (ns := 0) (mc := 0) (ms := 0) (N := mX12_finding) dX12_rest_157 lv_X12_90 mo_X12_finding hR.cn (Nat.le_of_ble_eq_true rfl) (Nat.le_of_ble_eq_true rfl) (by decide) (s_finding D hR 2 (by decide) (((-1000000002))) fE2) (fun h hP => ?_)
      obtain ⟨hR, hF1⟩ := hP
      have hF := hF.trans hF1
      have hS := hS.er 2
      refine e_top (lowE 2) lE2 ?_
      have e9 : f_rest s n = er 2 (s) := by rw [f_rest, if_pos hcq7, hfs, if_neg (Nat.lt_irrefl _)]
      rw [e9] at hp
      exact e_iret dX12_rest_160 rfl (hp _ ⟨⟨_, _, hR, hS⟩, hF⟩)
    · refine e_aload_n dX12_rest_138 rfl ?_
      refine e_iconst (nI (0)) dX12_rest_139 (by decide) ?_
      refine c_V1i (nc := 0) (ns := 0) (mc := 0) (ms := 0) (N := mX12_back) dX12_rest_140 lv_X12_290 mo_X12_back hR.cn (Nat.le_of_ble_eq_true rfl) (Nat.le_of_ble_eq_true rfl) (by decide) (s_back D hR (nI (0))) (fun h hP => ?_)
      obtain ⟨hR, hF1⟩ := hP
      have hF := hF.trans hF1
      rw [hA2] at hR
      have hY := hI.1.1
      refine e_if_neN 154 dX12_rest_143 (by decide) (by omega) (fun hcq143 => absurd hcq143 (by decide)) (fun hcq143 => ?_)
      refine e_iload_n dX12_rest_146 rfl ?_
      refine e_if_eqN 154 dX12_rest_147 (by decide) (by omega) (fun hcq147 => absurd hcq147 (by decide)) (fun hcq147 => ?_)
      refine e_iload_n dX12_rest_150 rfl ?_
      refine e_goto 160 dX12_rest_151 (by decide) ?_
      have e9 : f_rest s n = (nI (k + 1), s) := by rw [f_rest, if_pos hcq7, hfs, if_pos hkn]
      rw [e9] at hp
      exact e_iret dX12_rest_160 rfl (hp _ ⟨⟨_, _, hR, hS⟩, hF⟩)
  · refine e_aload_n dX12_rest_10 rfl ?_
    refine e_ldc dX12_rest_11 w_1294 ?_
    refine c_V1i (nc := 0) (ns := 0) (mc := 0) (ms := 0) (N := mX12_finding) dX12_rest_13 lv_X12_90 mo_X12_finding hR.cn (Nat.le_of_ble_eq_true rfl) (Nat.le_of_ble_eq_true rfl) (by decide) (s_finding D hR 1 (by decide) (((-1000000001))) fE1) (fun h hP => ?_)
    obtain ⟨hR, hF1⟩ := hP
    have hF := hF.trans hF1
    have hS := hS.er 1
    refine e_top (lowE 1) lE1 ?_
    have e9 : f_rest s n = er 1 (s) := by rw [f_rest, if_neg hcq7]
    rw [e9] at hp
    exact e_iret dX12_rest_16 rfl (hp _ ⟨⟨_, _, hR, hS⟩, hF⟩)
theorem txN_upd {N : Nat → Int32} {k : Nat} (x : Int32) (hk : k < 252) : txN (upd N k x) = txN N := by
  funext u
  unfold txN
  rw [pk_un (by omega)]
  apply List.map_congr_left
  intro i _
  rw [pk_un (by omega)]
theorem bI_pos {b : Nat} (h : ¬ bI b < 0) (hb : b ≤ 8) : bI b = nI (b - 1) ∧ b ≠ 0 := by
  unfold bI at h ⊢
  by_cases z : b = 0
  · rw [if_pos z] at h; exact absurd (by decide) h
  · exact ⟨if_neg z, z⟩
theorem bI_neg {b : Nat} (h : bI b < 0) (hb : b ≤ 8) : b = 0 := by
  unfold bI at h
  by_cases z : b = 0
  · exact z
  · rw [if_neg z] at h; exact absurd h (nI_pos (by omega))
theorem mpW_le (Y : Nat → Int32) (g : Int32) (v : Nat) : mpW Y g v ≤ v := by
  induction v with
  | zero => exact Nat.le_refl _
  | succ v ih => rw [mpW]; (repeat' split) <;> omega
theorem PW_other {N : Nat → Int32} {k : Nat} {x : Int32} (h : PW N) (hk : k < 7 ∨ (11 ≤ k ∧ k < 16) ∨ 232 ≤ k) : PW (upd N k x) := by
  obtain ⟨h1, h2, h3, h4, h5⟩ := h
  refine ⟨fun v hv w hw => ?_, fun a ha b hb => ?_, fun t ht => ?_, fun i hi => ?_, fun i hi => ?_⟩
  · rw [pk_un (by omega)]; exact h1 v hv w hw
  · rw [pk_un (by omega), pk_un (by omega)]; exact h2 a ha b hb
  · rw [pk_un (by omega), pk_un (by omega)]; exact h3 t ht
  · rw [pk_un (by omega)]; exact h4 i hi
  · rw [pk_un (by omega)]; exact h5 i hi
theorem INV_wt {s : SS} (hI : INV s) : INV (wtN s) := by
  obtain ⟨⟨h1, h2, h3, h4, h5⟩, hk, hz⟩ := hI
  refine ⟨⟨?_, h2, ⟨by show upd (sN s) 4 (nI 0) 4 = nI (tn (upd (sN s) 4 (nI 0) 4)); rw [pk_us]; rfl, by show tn (upd (sN s) 4 (nI 0) 4) ≤ 20; rw [pk_us]; decide⟩, PW_other h4 (by omega), ?_⟩, hk, hz⟩
  · show YW (upd (sN s) 4 (nI 0)) (nvN (sN s)) (tcN (sN s)) (txN (upd (sN s) 4 (nI 0)))
    rw [txN_upd _ (by decide)]
    exact YW_upd h1 (by unfold FI; omega)
  · show ∀ u, u < 3 → ∀ q, q ∈ txN (upd (sN s) 4 (nI 0)) u → WQ u q
    rw [txN_upd _ (by decide)]
    exact h5
set_option maxRecDepth 20000 in
theorem lp_chkI (D : En) {s : SS} {τ : Nat → Int32} {h00 : AH} (hI : INV s) {post : Option Value → AH → Prop} {h : AH} {σ : Nat → Nat → Int32} {Y : Nat → Int32} (hR : RefAt h Y σ τ) (hY : YW Y (nvN (sN s)) (tcN (sN s)) (txN (sN s))) (n lf g wr : Int32) (m k : Nat) (kk : Ev D 9 mX12_check 164 [some (.ref 82), some (.int n), some (.int (nI m)), some (.int lf), some (.int g), some (.int wr), some (.int (nI k)), some (.int (bI (mpW Y g (nvN (sN s))))), none] [] h 0 0 post) : ∀ (j : Nat) (v : Nat), (v + j = nvN (sN s)) → Ev D 9 mX12_check 108 [some (.ref (82)), some (.int (n)), some (.int (nI (m))), some (.int (lf)), some (.int (g)), some (.int (wr)), some (.int (nI (k))), some (.int (bI (mpW Y g v))), some (.int (nI (v)))] [] h 0 0 post := by
  intro j
  induction j with
  | zero =>
    intro v hm
    have hnv := hY.2.1
    have hml := mpW_le Y g v
    refine e_iload dX12_check_108 rfl ?_
    refine e_aload_n dX12_check_110 rfl ?_
    refine e_get dX12_check_111 fl_X12_9_12 hR.1 rfl ?_
    refine e_iconst (nI (1)) dX12_check_114 (by decide) ?_
    refine e_ild (1) (nI (nvN (sN s))) dX12_check_115 hR.2.1 rfl (by omega) (by decide) hY.1 ?_
    refine e_icmp_geN 164 dX12_check_116 (by decide) (by omega) (by omega) (fun hcq116 => ?_) (fun hcq116 => absurd hcq116 (by omega))
    rw [show v = nvN (sN s) by omega]
    exact Ev.drop 8 kk
  | succ j ih =>
    intro v hm
    have hnv := hY.2.1
    have hml := mpW_le Y g v
    refine e_iload dX12_check_108 rfl ?_
    refine e_aload_n dX12_check_110 rfl ?_
    refine e_get dX12_check_111 fl_X12_9_12 hR.1 rfl ?_
    refine e_iconst (nI (1)) dX12_check_114 (by decide) ?_
    refine e_ild (1) (nI (nvN (sN s))) dX12_check_115 hR.2.1 rfl (by omega) (by decide) hY.1 ?_
    refine e_icmp_geN 164 dX12_check_116 (by decide) (by omega) (by omega) (fun hcq116 => absurd hcq116 (by omega)) (fun hcq116 => ?_)
    refine e_iload dX12_check_119 rfl ?_
    refine e_iload dX12_check_121 rfl ?_
    refine c_S2iR (N := mX12_has) dX12_check_123 ls_X12_161 mo_X12_has  (Nat.le_of_ble_eq_true rfl) (Nat.le_of_ble_eq_true rfl) (by decide) (s_has D ((g)) (nI (v))) ?_
    refine e_if_neB 154 dX12_check_126 (by decide) (fun hcq126 => ?_) (fun hcq126 => ?_)
    · refine e_iload dX12_check_154 rfl ?_
      refine e_top (bI (mpW Y g (v + 1))) (by first | (rw [mpW, if_pos hcq126]; done) | (rw [mpW, if_neg hcq126, if_pos (bI_neg hcq131 (by omega))]; rfl) | (rw [mpW, if_neg hcq126, if_neg hb0, if_pos hcq146]; done) | (rw [mpW, if_neg hcq126, if_neg hb0, if_neg hcq146]; rfl)) ?_
      refine e_istore dX12_check_156 (by decide) ?_
      refine e_iincN (v + 1) dX12_check_158 rfl (by decide) (nI_add _ _) ?_
      refine e_goto 108 dX12_check_161 (by decide) ?_
      exact ih (v + 1) (by omega)
    · refine e_iload dX12_check_129 rfl ?_
      refine e_if_lt 149 dX12_check_131 (by decide) (fun hcq131 => ?_) (fun hcq131 => ?_)
      · refine e_iload dX12_check_149 rfl ?_
        refine e_goto 156 dX12_check_151 (by decide) ?_
        refine e_top (bI (mpW Y g (v + 1))) (by first | (rw [mpW, if_pos hcq126]; done) | (rw [mpW, if_neg hcq126, if_pos (bI_neg hcq131 (by omega))]; rfl) | (rw [mpW, if_neg hcq126, if_neg hb0, if_pos hcq146]; done) | (rw [mpW, if_neg hcq126, if_neg hb0, if_neg hcq146]; rfl)) ?_
        refine e_istore dX12_check_156 (by decide) ?_
        refine e_iincN (v + 1) dX12_check_158 rfl (by decide) (nI_add _ _) ?_
        refine e_goto 108 dX12_check_161 (by decide) ?_
        exact ih (v + 1) (by omega)
      · have hb0 := (bI_pos hcq131 (by omega)).2
        refine e_aload_n dX12_check_134 rfl ?_
        refine e_iload dX12_check_135 rfl ?_
        refine c_V1iR (N := mX12_allOf) dX12_check_137 lv_X12_107 mo_X12_allOf hR.cn (Nat.le_of_ble_eq_true rfl) (Nat.le_of_ble_eq_true rfl) (by decide) (s_allOf D hR (v) (by omega)) ?_
        refine e_aload_n dX12_check_140 rfl ?_
        refine e_iload dX12_check_141 rfl ?_
        refine e_top (nI (mpW Y g v - 1)) ((bI_pos hcq131 (by omega)).1) ?_
        refine c_V1iR (N := mX12_allOf) dX12_check_143 lv_X12_107 mo_X12_allOf hR.cn (Nat.le_of_ble_eq_true rfl) (Nat.le_of_ble_eq_true rfl) (by decide) (s_allOf D hR (mpW Y g v - 1) (by omega)) ?_
        refine e_icmp_le 154 dX12_check_146 (by decide) (fun hcq146 => ?_) (fun hcq146 => ?_)
        · refine e_iload dX12_check_154 rfl ?_
          refine e_top (bI (mpW Y g (v + 1))) (by first | (rw [mpW, if_pos hcq126]; done) | (rw [mpW, if_neg hcq126, if_pos (bI_neg hcq131 (by omega))]; rfl) | (rw [mpW, if_neg hcq126, if_neg hb0, if_pos hcq146]; done) | (rw [mpW, if_neg hcq126, if_neg hb0, if_neg hcq146]; rfl)) ?_
          refine e_istore dX12_check_156 (by decide) ?_
          refine e_iincN (v + 1) dX12_check_158 rfl (by decide) (nI_add _ _) ?_
          refine e_goto 108 dX12_check_161 (by decide) ?_
          exact ih (v + 1) (by omega)
        · refine e_iload dX12_check_149 rfl ?_
          refine e_goto 156 dX12_check_151 (by decide) ?_
          refine e_top (bI (mpW Y g (v + 1))) (by first | (rw [mpW, if_pos hcq126]; done) | (rw [mpW, if_neg hcq126, if_pos (bI_neg hcq131 (by omega))]; rfl) | (rw [mpW, if_neg hcq126, if_neg hb0, if_pos hcq146]; done) | (rw [mpW, if_neg hcq126, if_neg hb0, if_neg hcq146]; rfl)) ?_
          refine e_istore dX12_check_156 (by decide) ?_
          refine e_iincN (v + 1) dX12_check_158 rfl (by decide) (nI_add _ _) ?_
          refine e_goto 108 dX12_check_161 (by decide) ?_
          exact ih (v + 1) (by omega)
set_option maxRecDepth 20000 in
theorem lp_chk0 (D : En) {s : SS} {τ : Nat → Int32} {h00 : AH} (hI : INV s) {post : Option Value → AH → Prop} {h : AH} {σ : Nat → Nat → Int32} {Y : Nat → Int32} (hR : RefAt h Y σ τ) (hA2 : σ 2 = sN s) (hY : YW Y (nvN (sN s)) (tcN (sN s)) (txN (sN s))) (n lf : Int32) (m : Nat) (hm20 : m ≤ 20) (hnm : ¬ nvN (sN s) < m) (kk : Ev D 9 mX12_check 212 [some (.ref 82), some (.int n), some (.int (nI m)), some (.int lf), none, some (.int (ckV (sN s) Y (nvN (sN s)) m)), none, none, none] [] h 0 0 post) : ∀ (j : Nat) (k : Nat) (g : Int32), (k + j = nvN (sN s)) → (g = goW Y (nvN (sN s)) k) → (fsP (ckP Y (sN s) (nvN (sN s)) m) (nvN (sN s)) 0 = fsP (ckP Y (sN s) (nvN (sN s)) m) j k) → Ev D 9 mX12_check 75 [some (.ref (82)), some (.int (n)), some (.int (nI (m))), some (.int (lf)), some (.int (g)), some (.int (nI (0))), some (.int (nI (k))), none, none] [] h 0 0 post := by
  intro j
  induction j with
  | zero =>
    intro k g hm hg hfs
    have hnv := hY.2.1
    refine e_iload dX12_check_75 rfl ?_
    refine e_aload_n dX12_check_77 rfl ?_
    refine e_get dX12_check_78 fl_X12_9_12 hR.1 rfl ?_
    refine e_iconst (nI (1)) dX12_check_81 (by decide) ?_
    refine e_ild (1) (nI (nvN (sN s))) dX12_check_82 hR.2.1 rfl (by omega) (by decide) hY.1 ?_
    refine e_icmp_geN 212 dX12_check_83 (by decide) (by omega) (by omega) (fun hcq83 => ?_) (fun hcq83 => absurd hcq83 (by omega))
    refine Ev.drop 4 (Ev.drop 6 ?_)
    rw [show ckV (sN s) Y (nvN (sN s)) m = nI (0) from by unfold ckV; rw [show fsP (ckP Y (sN s) (nvN (sN s)) m) (nvN (sN s)) 0 = k from hfs, if_neg (by omega), if_neg hnm]] at kk
    exact kk
  | succ j ih =>
    intro k g hm hg hfs
    have hnv := hY.2.1
    refine e_iload dX12_check_75 rfl ?_
    refine e_aload_n dX12_check_77 rfl ?_
    refine e_get dX12_check_78 fl_X12_9_12 hR.1 rfl ?_
    refine e_iconst (nI (1)) dX12_check_81 (by decide) ?_
    refine e_ild (1) (nI (nvN (sN s))) dX12_check_82 hR.2.1 rfl (by omega) (by decide) hY.1 ?_
    refine e_icmp_geN 212 dX12_check_83 (by decide) (by omega) (by omega) (fun hcq83 => absurd hcq83 (by omega)) (fun hcq83 => ?_)
    refine e_iload dX12_check_86 rfl ?_
    refine e_if_eqN 102 dX12_check_88 (by decide) (by omega) (fun hcq88 => ?_) (fun hcq88 => absurd hcq88 (by decide))
    refine e_iconst (((-1))) dX12_check_102 (by decide) ?_
    refine e_istore dX12_check_103 (by decide) ?_
    refine e_iconst (nI (0)) dX12_check_105 (by decide) ?_
    refine e_istore dX12_check_106 (by decide) ?_
    refine lp_chkI D hI (h00 := h) hR hY n lf g (nI (0)) m k ?_ (nvN (sN s)) 0 (by omega)
    refine e_iload dX12_check_164 rfl ?_
    refine e_iload_n dX12_check_166 rfl ?_
    refine e_icmp_geN 186 dX12_check_167 (by decide) (by omega) (by omega) (fun hcq167 => ?_) (fun hcq167 => ?_)
    · refine e_iconst (nI (1)) dX12_check_186 (by decide) ?_
      refine e_iload dX12_check_187 rfl ?_
      refine e_iaddN dX12_check_189 ?_
      refine e_goto 195 dX12_check_190 (by decide) ?_
      refine e_istore dX12_check_195 (by decide) ?_
      refine e_iload dX12_check_197 rfl ?_
      refine e_iconst (nI (1)) dX12_check_199 (by decide) ?_
      refine e_iload dX12_check_200 rfl ?_
      refine e_ishl dX12_check_202 ?_
      refine e_ior dX12_check_203 ?_
      refine e_istore dX12_check_204 (by decide) ?_
      refine e_iincN (k + 1) dX12_check_206 rfl (by decide) (nI_add _ _) ?_
      refine e_goto 75 dX12_check_209 (by decide) ?_
      have hfk : fsP (ckP Y (sN s) (nvN (sN s)) m) (nvN (sN s)) 0 = k := by rw [hfs, fsP, if_pos (show ckP Y (sN s) (nvN (sN s)) m k = true from decide_eq_true (by first | exact Or.inl hcq167 | exact Or.inr (by rw [← hg]; exact hcq183)))]
      refine e_iload dX12_check_75 rfl ?_
      refine e_aload_n dX12_check_77 rfl ?_
      refine e_get dX12_check_78 fl_X12_9_12 hR.1 rfl ?_
      refine e_iconst (nI (1)) dX12_check_81 (by decide) ?_
      refine e_ild (1) (nI (nvN (sN s))) dX12_check_82 hR.2.1 rfl (by omega) (by decide) hY.1 ?_
      refine e_icmp_geN 212 dX12_check_83 (by decide) (by omega) (by omega) (fun hcq83 => ?_) (fun hcq83 => ?_)
      · refine Ev.drop 4 (Ev.drop 6 (Ev.drop 7 ?_))
        rw [show ckV (sN s) Y (nvN (sN s)) m = nI (1 + k) from by unfold ckV; rw [hfk, if_pos (by omega)]] at kk
        exact kk
      · refine e_iload dX12_check_86 rfl ?_
        refine e_if_eqN 102 dX12_check_88 (by decide) (by omega) (fun hcq88 => absurd hcq88 (by omega)) (fun hcq88 => ?_)
        refine e_iload dX12_check_91 rfl ?_
        refine e_aload_n dX12_check_93 rfl ?_
        refine e_get dX12_check_94 fl_X12_9_12 hR.1 rfl ?_
        refine e_iconst (nI (1)) dX12_check_97 (by decide) ?_
        refine e_ild (1) (nI (nvN (sN s))) dX12_check_98 hR.2.1 rfl (by omega) (by decide) hY.1 ?_
        refine e_icmp_leN 212 dX12_check_99 (by decide) (by omega) (by omega) (fun hcq99 => ?_) (fun hcq99 => absurd hcq99 (by omega))
        refine Ev.drop 4 (Ev.drop 6 (Ev.drop 7 ?_))
        rw [show ckV (sN s) Y (nvN (sN s)) m = nI (1 + k) from by unfold ckV; rw [hfk, if_pos (by omega)]] at kk
        exact kk
      skip
    · refine e_aload_n dX12_check_170 rfl ?_
      refine e_get dX12_check_171 fl_X12_16_12 hR.1 rfl ?_
      refine e_sipush (nI (232)) dX12_check_174 (by decide) ?_
      refine e_iload dX12_check_177 rfl ?_
      refine e_iaddN dX12_check_179 ?_
      refine e_ild (232 + k) ((sN s (232 + k))) dX12_check_180 (hR.2.2.1 2 (by decide) (by decide) (by decide)) rfl (by show _ < 408; omega) (by decide) (show _ = sN s (232 + k) by rw [hA2]) ?_
      refine e_iload dX12_check_181 rfl ?_
      refine e_icmp_eq 193 dX12_check_183 (by decide) (fun hcq183 => ?_) (fun hcq183 => ?_)
      · refine e_iload dX12_check_193 rfl ?_
        refine e_istore dX12_check_195 (by decide) ?_
        refine e_iload dX12_check_197 rfl ?_
        refine e_iconst (nI (1)) dX12_check_199 (by decide) ?_
        refine e_iload dX12_check_200 rfl ?_
        refine e_ishl dX12_check_202 ?_
        refine e_ior dX12_check_203 ?_
        refine e_istore dX12_check_204 (by decide) ?_
        refine e_iincN (k + 1) dX12_check_206 rfl (by decide) (nI_add _ _) ?_
        refine e_goto 75 dX12_check_209 (by decide) ?_
        refine Ev.drop 7 ?_
        exact ih (k + 1) _ (by omega) (by rw [goW, ← hg]) (by rw [hfs, fsP, if_neg (by rw [show ckP Y (sN s) (nvN (sN s)) m k = false from decide_eq_false (fun zz => by rcases zz with e8 | e8; omega; exact e8 (hg ▸ hcq183))]; decide)])
      · refine e_iconst (nI (1)) dX12_check_186 (by decide) ?_
        refine e_iload dX12_check_187 rfl ?_
        refine e_iaddN dX12_check_189 ?_
        refine e_goto 195 dX12_check_190 (by decide) ?_
        refine e_istore dX12_check_195 (by decide) ?_
        refine e_iload dX12_check_197 rfl ?_
        refine e_iconst (nI (1)) dX12_check_199 (by decide) ?_
        refine e_iload dX12_check_200 rfl ?_
        refine e_ishl dX12_check_202 ?_
        refine e_ior dX12_check_203 ?_
        refine e_istore dX12_check_204 (by decide) ?_
        refine e_iincN (k + 1) dX12_check_206 rfl (by decide) (nI_add _ _) ?_
        refine e_goto 75 dX12_check_209 (by decide) ?_
        have hfk : fsP (ckP Y (sN s) (nvN (sN s)) m) (nvN (sN s)) 0 = k := by rw [hfs, fsP, if_pos (show ckP Y (sN s) (nvN (sN s)) m k = true from decide_eq_true (by first | exact Or.inl hcq167 | exact Or.inr (by rw [← hg]; exact hcq183)))]
        refine e_iload dX12_check_75 rfl ?_
        refine e_aload_n dX12_check_77 rfl ?_
        refine e_get dX12_check_78 fl_X12_9_12 hR.1 rfl ?_
        refine e_iconst (nI (1)) dX12_check_81 (by decide) ?_
        refine e_ild (1) (nI (nvN (sN s))) dX12_check_82 hR.2.1 rfl (by omega) (by decide) hY.1 ?_
        refine e_icmp_geN 212 dX12_check_83 (by decide) (by omega) (by omega) (fun hcq83 => ?_) (fun hcq83 => ?_)
        · refine Ev.drop 4 (Ev.drop 6 (Ev.drop 7 ?_))
          rw [show ckV (sN s) Y (nvN (sN s)) m = nI (1 + k) from by unfold ckV; rw [hfk, if_pos (by omega)]] at kk
          exact kk
        · refine e_iload dX12_check_86 rfl ?_
          refine e_if_eqN 102 dX12_check_88 (by decide) (by omega) (fun hcq88 => absurd hcq88 (by omega)) (fun hcq88 => ?_)
          refine e_iload dX12_check_91 rfl ?_
          refine e_aload_n dX12_check_93 rfl ?_
          refine e_get dX12_check_94 fl_X12_9_12 hR.1 rfl ?_
          refine e_iconst (nI (1)) dX12_check_97 (by decide) ?_
          refine e_ild (1) (nI (nvN (sN s))) dX12_check_98 hR.2.1 rfl (by omega) (by decide) hY.1 ?_
          refine e_icmp_leN 212 dX12_check_99 (by decide) (by omega) (by omega) (fun hcq99 => ?_) (fun hcq99 => absurd hcq99 (by omega))
          refine Ev.drop 4 (Ev.drop 6 (Ev.drop 7 ?_))
          rw [show ckV (sN s) Y (nvN (sN s)) m = nI (1 + k) from by unfold ckV; rw [hfk, if_pos (by omega)]] at kk
          exact kk
        skip
set_option maxRecDepth 20000 in
theorem lp_chk1 (D : En) {s : SS} {τ : Nat → Int32} {h00 : AH} (hI : INV s) {post : Option Value → AH → Prop} {h : AH} {σ : Nat → Nat → Int32} {Y : Nat → Int32} (hR : RefAt h Y σ τ) (hA2 : σ 2 = sN s) (hY : YW Y (nvN (sN s)) (tcN (sN s)) (txN (sN s))) (n lf : Int32) (m : Nat) (hm20 : m ≤ 20) (hnm : nvN (sN s) < m) (kk : Ev D 9 mX12_check 212 [some (.ref 82), some (.int n), some (.int (nI m)), some (.int lf), none, some (.int (ckV (sN s) Y (nvN (sN s)) m)), none, none, none] [] h 0 0 post) : ∀ (j : Nat) (k : Nat) (g : Int32), (k + j = nvN (sN s)) → (g = goW Y (nvN (sN s)) k) → (fsP (ckP Y (sN s) (nvN (sN s)) m) (nvN (sN s)) 0 = fsP (ckP Y (sN s) (nvN (sN s)) m) j k) → Ev D 9 mX12_check 75 [some (.ref (82)), some (.int (n)), some (.int (nI (m))), some (.int (lf)), some (.int (g)), some (.int (nI (1 + nvN (sN s)))), some (.int (nI (k))), none, none] [] h 0 0 post := by
  intro j
  induction j with
  | zero =>
    intro k g hm hg hfs
    have hnv := hY.2.1
    refine e_iload dX12_check_75 rfl ?_
    refine e_aload_n dX12_check_77 rfl ?_
    refine e_get dX12_check_78 fl_X12_9_12 hR.1 rfl ?_
    refine e_iconst (nI (1)) dX12_check_81 (by decide) ?_
    refine e_ild (1) (nI (nvN (sN s))) dX12_check_82 hR.2.1 rfl (by omega) (by decide) hY.1 ?_
    refine e_icmp_geN 212 dX12_check_83 (by decide) (by omega) (by omega) (fun hcq83 => ?_) (fun hcq83 => absurd hcq83 (by omega))
    refine Ev.drop 4 (Ev.drop 6 ?_)
    rw [show ckV (sN s) Y (nvN (sN s)) m = nI (1 + nvN (sN s)) from by unfold ckV; rw [show fsP (ckP Y (sN s) (nvN (sN s)) m) (nvN (sN s)) 0 = k from hfs, if_neg (by omega), if_pos hnm]] at kk
    exact kk
  | succ j ih =>
    intro k g hm hg hfs
    have hnv := hY.2.1
    refine e_iload dX12_check_75 rfl ?_
    refine e_aload_n dX12_check_77 rfl ?_
    refine e_get dX12_check_78 fl_X12_9_12 hR.1 rfl ?_
    refine e_iconst (nI (1)) dX12_check_81 (by decide) ?_
    refine e_ild (1) (nI (nvN (sN s))) dX12_check_82 hR.2.1 rfl (by omega) (by decide) hY.1 ?_
    refine e_icmp_geN 212 dX12_check_83 (by decide) (by omega) (by omega) (fun hcq83 => absurd hcq83 (by omega)) (fun hcq83 => ?_)
    refine e_iload dX12_check_86 rfl ?_
    refine e_if_eqN 102 dX12_check_88 (by decide) (by omega) (fun hcq88 => absurd hcq88 (by omega)) (fun hcq88 => ?_)
    refine e_iload dX12_check_91 rfl ?_
    refine e_aload_n dX12_check_93 rfl ?_
    refine e_get dX12_check_94 fl_X12_9_12 hR.1 rfl ?_
    refine e_iconst (nI (1)) dX12_check_97 (by decide) ?_
    refine e_ild (1) (nI (nvN (sN s))) dX12_check_98 hR.2.1 rfl (by omega) (by decide) hY.1 ?_
    refine e_icmp_leN 212 dX12_check_99 (by decide) (by omega) (by omega) (fun hcq99 => absurd hcq99 (by omega)) (fun hcq99 => ?_)
    refine e_iconst (((-1))) dX12_check_102 (by decide) ?_
    refine e_istore dX12_check_103 (by decide) ?_
    refine e_iconst (nI (0)) dX12_check_105 (by decide) ?_
    refine e_istore dX12_check_106 (by decide) ?_
    refine lp_chkI D hI (h00 := h) hR hY n lf g (nI (1 + nvN (sN s))) m k ?_ (nvN (sN s)) 0 (by omega)
    refine e_iload dX12_check_164 rfl ?_
    refine e_iload_n dX12_check_166 rfl ?_
    refine e_icmp_geN 186 dX12_check_167 (by decide) (by omega) (by omega) (fun hcq167 => ?_) (fun hcq167 => ?_)
    · refine e_iconst (nI (1)) dX12_check_186 (by decide) ?_
      refine e_iload dX12_check_187 rfl ?_
      refine e_iaddN dX12_check_189 ?_
      refine e_goto 195 dX12_check_190 (by decide) ?_
      refine e_istore dX12_check_195 (by decide) ?_
      refine e_iload dX12_check_197 rfl ?_
      refine e_iconst (nI (1)) dX12_check_199 (by decide) ?_
      refine e_iload dX12_check_200 rfl ?_
      refine e_ishl dX12_check_202 ?_
      refine e_ior dX12_check_203 ?_
      refine e_istore dX12_check_204 (by decide) ?_
      refine e_iincN (k + 1) dX12_check_206 rfl (by decide) (nI_add _ _) ?_
      refine e_goto 75 dX12_check_209 (by decide) ?_
      have hfk : fsP (ckP Y (sN s) (nvN (sN s)) m) (nvN (sN s)) 0 = k := by rw [hfs, fsP, if_pos (show ckP Y (sN s) (nvN (sN s)) m k = true from decide_eq_true (by first | exact Or.inl hcq167 | exact Or.inr (by rw [← hg]; exact hcq183)))]
      refine e_iload dX12_check_75 rfl ?_
      refine e_aload_n dX12_check_77 rfl ?_
      refine e_get dX12_check_78 fl_X12_9_12 hR.1 rfl ?_
      refine e_iconst (nI (1)) dX12_check_81 (by decide) ?_
      refine e_ild (1) (nI (nvN (sN s))) dX12_check_82 hR.2.1 rfl (by omega) (by decide) hY.1 ?_
      refine e_icmp_geN 212 dX12_check_83 (by decide) (by omega) (by omega) (fun hcq83 => ?_) (fun hcq83 => ?_)
      · refine Ev.drop 4 (Ev.drop 6 (Ev.drop 7 ?_))
        rw [show ckV (sN s) Y (nvN (sN s)) m = nI (1 + k) from by unfold ckV; rw [hfk, if_pos (by omega)]] at kk
        exact kk
      · refine e_iload dX12_check_86 rfl ?_
        refine e_if_eqN 102 dX12_check_88 (by decide) (by omega) (fun hcq88 => absurd hcq88 (by omega)) (fun hcq88 => ?_)
        refine e_iload dX12_check_91 rfl ?_
        refine e_aload_n dX12_check_93 rfl ?_
        refine e_get dX12_check_94 fl_X12_9_12 hR.1 rfl ?_
        refine e_iconst (nI (1)) dX12_check_97 (by decide) ?_
        refine e_ild (1) (nI (nvN (sN s))) dX12_check_98 hR.2.1 rfl (by omega) (by decide) hY.1 ?_
        refine e_icmp_leN 212 dX12_check_99 (by decide) (by omega) (by omega) (fun hcq99 => ?_) (fun hcq99 => absurd hcq99 (by omega))
        refine Ev.drop 4 (Ev.drop 6 (Ev.drop 7 ?_))
        rw [show ckV (sN s) Y (nvN (sN s)) m = nI (1 + k) from by unfold ckV; rw [hfk, if_pos (by omega)]] at kk
        exact kk
      skip
    · refine e_aload_n dX12_check_170 rfl ?_
      refine e_get dX12_check_171 fl_X12_16_12 hR.1 rfl ?_
      refine e_sipush (nI (232)) dX12_check_174 (by decide) ?_
      refine e_iload dX12_check_177 rfl ?_
      refine e_iaddN dX12_check_179 ?_
      refine e_ild (232 + k) ((sN s (232 + k))) dX12_check_180 (hR.2.2.1 2 (by decide) (by decide) (by decide)) rfl (by show _ < 408; omega) (by decide) (show _ = sN s (232 + k) by rw [hA2]) ?_
      refine e_iload dX12_check_181 rfl ?_
      refine e_icmp_eq 193 dX12_check_183 (by decide) (fun hcq183 => ?_) (fun hcq183 => ?_)
      · refine e_iload dX12_check_193 rfl ?_
        refine e_istore dX12_check_195 (by decide) ?_
        refine e_iload dX12_check_197 rfl ?_
        refine e_iconst (nI (1)) dX12_check_199 (by decide) ?_
        refine e_iload dX12_check_200 rfl ?_
        refine e_ishl dX12_check_202 ?_
        refine e_ior dX12_check_203 ?_
        refine e_istore dX12_check_204 (by decide) ?_
        refine e_iincN (k + 1) dX12_check_206 rfl (by decide) (nI_add _ _) ?_
        refine e_goto 75 dX12_check_209 (by decide) ?_
        refine Ev.drop 7 ?_
        exact ih (k + 1) _ (by omega) (by rw [goW, ← hg]) (by rw [hfs, fsP, if_neg (by rw [show ckP Y (sN s) (nvN (sN s)) m k = false from decide_eq_false (fun zz => by rcases zz with e8 | e8; omega; exact e8 (hg ▸ hcq183))]; decide)])
      · refine e_iconst (nI (1)) dX12_check_186 (by decide) ?_
        refine e_iload dX12_check_187 rfl ?_
        refine e_iaddN dX12_check_189 ?_
        refine e_goto 195 dX12_check_190 (by decide) ?_
        refine e_istore dX12_check_195 (by decide) ?_
        refine e_iload dX12_check_197 rfl ?_
        refine e_iconst (nI (1)) dX12_check_199 (by decide) ?_
        refine e_iload dX12_check_200 rfl ?_
        refine e_ishl dX12_check_202 ?_
        refine e_ior dX12_check_203 ?_
        refine e_istore dX12_check_204 (by decide) ?_
        refine e_iincN (k + 1) dX12_check_206 rfl (by decide) (nI_add _ _) ?_
        refine e_goto 75 dX12_check_209 (by decide) ?_
        have hfk : fsP (ckP Y (sN s) (nvN (sN s)) m) (nvN (sN s)) 0 = k := by rw [hfs, fsP, if_pos (show ckP Y (sN s) (nvN (sN s)) m k = true from decide_eq_true (by first | exact Or.inl hcq167 | exact Or.inr (by rw [← hg]; exact hcq183)))]
        refine e_iload dX12_check_75 rfl ?_
        refine e_aload_n dX12_check_77 rfl ?_
        refine e_get dX12_check_78 fl_X12_9_12 hR.1 rfl ?_
        refine e_iconst (nI (1)) dX12_check_81 (by decide) ?_
        refine e_ild (1) (nI (nvN (sN s))) dX12_check_82 hR.2.1 rfl (by omega) (by decide) hY.1 ?_
        refine e_icmp_geN 212 dX12_check_83 (by decide) (by omega) (by omega) (fun hcq83 => ?_) (fun hcq83 => ?_)
        · refine Ev.drop 4 (Ev.drop 6 (Ev.drop 7 ?_))
          rw [show ckV (sN s) Y (nvN (sN s)) m = nI (1 + k) from by unfold ckV; rw [hfk, if_pos (by omega)]] at kk
          exact kk
        · refine e_iload dX12_check_86 rfl ?_
          refine e_if_eqN 102 dX12_check_88 (by decide) (by omega) (fun hcq88 => absurd hcq88 (by omega)) (fun hcq88 => ?_)
          refine e_iload dX12_check_91 rfl ?_
          refine e_aload_n dX12_check_93 rfl ?_
          refine e_get dX12_check_94 fl_X12_9_12 hR.1 rfl ?_
          refine e_iconst (nI (1)) dX12_check_97 (by decide) ?_
          refine e_ild (1) (nI (nvN (sN s))) dX12_check_98 hR.2.1 rfl (by omega) (by decide) hY.1 ?_
          refine e_icmp_leN 212 dX12_check_99 (by decide) (by omega) (by omega) (fun hcq99 => ?_) (fun hcq99 => absurd hcq99 (by omega))
          refine Ev.drop 4 (Ev.drop 6 (Ev.drop 7 ?_))
          rw [show ckV (sN s) Y (nvN (sN s)) m = nI (1 + k) from by unfold ckV; rw [hfk, if_pos (by omega)]] at kk
          exact kk
        skip
set_option maxRecDepth 20000 in
theorem lp_chk (D : En) {s : SS} {τ : Nat → Int32} {h00 : AH} (hI : INV s) {post : Option Value → AH → Prop} {h : AH} {σ : Nat → Nat → Int32} (hR : RefAt h (sN s) σ τ) (hF : FrR h00 h) (hS : RS σ τ s) (n : Int32) (hn_n : n = nI (tn n)) (hl_n : tn n ≤ 40) (m : Nat) (hm20 : m ≤ 20) (hp : ∀ h' σ', RefAt h' (sN s) σ' τ → RS σ' τ s → FrR h00 h' → post (some (.int (ckV (sN s) (yrX (sN s) (sN s) (tn n)) (nvN (sN s)) m))) h') : Ev D 9 mX12_check 28 [some (.ref 82), some (.int n), some (.int (nI m)), none, none, none, none, none, none] [] h 0 0 post := by
  have hY := hI.1.1
  have hnv := hY.2.1
  have htc10 := hY.2.2.2.1
  refine e_aload_n dX12_check_28 rfl ?_
  refine e_get dX12_check_29 fl_X12_9_12 hR.1 rfl ?_
  refine e_aload_n dX12_check_32 rfl ?_
  refine e_get dX12_check_33 fl_X12_16_12 hR.1 rfl ?_
  refine c_S2v (nc := 0) (ns := 0) (mc := 0) (ms := 0) (N := mX12_copy) dX12_check_36 ls_X12_277 mo_X12_copy  (Nat.le_of_ble_eq_true rfl) (Nat.le_of_ble_eq_true rfl) (by decide) (s_copyNA D hR) (fun h hP => ?_)
  obtain ⟨hR, hF1⟩ := hP
  have hF := hF.trans hF1
  obtain ⟨σ, hR, hA2, hS⟩ : ∃ z, RefAt h (sN s) z τ ∧ z 2 = sN s ∧ RS z τ s := ⟨_, hR, va_upS _ _ _, hS.to (fun i hi => va_upN _ _ hi.1) rfl rfl⟩
  refine e_aload_n dX12_check_39 rfl ?_
  refine e_iload_n dX12_check_40 rfl ?_
  refine e_top (nI (tn n)) (hn_n) ?_
  refine c_V1i (nc := 0) (ns := 0) (mc := 0) (ms := 0) (N := mX12_ahead) dX12_check_41 lv_X12_284 mo_X12_ahead hR.cn (Nat.le_of_ble_eq_true rfl) (Nat.le_of_ble_eq_true rfl) (by decide) (s_ahead D hR hY (tn n) (by omega)) (fun h hP => ?_)
  have hG9 := hS.2.1.1
  obtain ⟨σ, hR, hE1, hF1⟩ := hP
  have hF := hF.trans hF1
  rw [hG9] at hR
  have hR : RefAt h (yrX (sN s) (sN s) (tn n)) σ τ := hR
  have hA2 := (hE1 2 (by decide) (by decide) (by decide)).trans hA2
  have hS := hS.to (fun i hi => hE1 i hi.2.1 hi.2.2.2.1 hi.2.2.2.2.1) rfl rfl
  have hY : YW (yrX (sN s) (sN s) (tn n)) (nvN (sN s)) (tcN (sN s)) (txN (sN s)) := yrsR_YW G0 hY _
  refine e_top (ppN (yrX (sN s) (sN s) (tn n)) (nvN (sN s))) (by rw [hG9]; rfl) ?_
  refine e_istore_n dX12_check_44 (by decide) ?_
  refine e_iconst (nI (0)) dX12_check_45 (by decide) ?_
  refine e_istore dX12_check_46 (by decide) ?_
  refine e_iload_n dX12_check_48 rfl ?_
  refine e_aload_n dX12_check_49 rfl ?_
  refine e_get dX12_check_50 fl_X12_9_12 hR.1 rfl ?_
  refine e_iconst (nI (1)) dX12_check_53 (by decide) ?_
  refine e_ild (1) (nI (nvN (sN s))) dX12_check_54 hR.2.1 rfl (by omega) (by decide) hY.1 ?_
  refine e_icmp_leN 69 dX12_check_55 (by decide) (by omega) (by omega) (fun hcq55 => ?_) (fun hcq55 => ?_)
  · refine e_iconst (nI (0)) dX12_check_69 (by decide) ?_
    refine e_istore dX12_check_70 (by decide) ?_
    refine e_iconst (nI (0)) dX12_check_72 (by decide) ?_
    refine e_istore dX12_check_73 (by decide) ?_
    refine lp_chk0 D hI (h00 := h) hR hA2 hY n _ m hm20 (Nat.not_lt.mpr hcq55) ?_ (nvN (sN s)) 0 _ (by omega) rfl rfl
    refine e_aload_n dX12_check_212 rfl ?_
    refine e_iload dX12_check_213 rfl ?_
    refine c_V1i (nc := 0) (ns := 0) (mc := 0) (ms := 0) (N := mX12_back) dX12_check_215 lv_X12_290 mo_X12_back hR.cn (Nat.le_of_ble_eq_true rfl) (Nat.le_of_ble_eq_true rfl) (by decide) (s_back D hR ((ckV (sN s) (yrX (sN s) (sN s) (tn n)) (nvN (sN s)) m))) (fun h hP => ?_)
    obtain ⟨hR, hF1⟩ := hP
    have hF := hF.trans hF1
    rw [hA2] at hR
    have hY := hI.1.1
    exact e_iret dX12_check_218 rfl (hp _ _ hR hS hF)
  · refine e_iconst (nI (1)) dX12_check_58 (by decide) ?_
    refine e_aload_n dX12_check_59 rfl ?_
    refine e_get dX12_check_60 fl_X12_9_12 hR.1 rfl ?_
    refine e_iconst (nI (1)) dX12_check_63 (by decide) ?_
    refine e_ild (1) (nI (nvN (sN s))) dX12_check_64 hR.2.1 rfl (by omega) (by decide) hY.1 ?_
    refine e_iaddN dX12_check_65 ?_
    refine e_goto 70 dX12_check_66 (by decide) ?_
    refine e_istore dX12_check_70 (by decide) ?_
    refine e_iconst (nI (0)) dX12_check_72 (by decide) ?_
    refine e_istore dX12_check_73 (by decide) ?_
    refine lp_chk1 D hI (h00 := h) hR hA2 hY n _ m hm20 hcq55 ?_ (nvN (sN s)) 0 _ (by omega) rfl rfl
    refine e_aload_n dX12_check_212 rfl ?_
    refine e_iload dX12_check_213 rfl ?_
    refine c_V1i (nc := 0) (ns := 0) (mc := 0) (ms := 0) (N := mX12_back) dX12_check_215 lv_X12_290 mo_X12_back hR.cn (Nat.le_of_ble_eq_true rfl) (Nat.le_of_ble_eq_true rfl) (by decide) (s_back D hR ((ckV (sN s) (yrX (sN s) (sN s) (tn n)) (nvN (sN s)) m))) (fun h hP => ?_)
    obtain ⟨hR, hF1⟩ := hP
    have hF := hF.trans hF1
    rw [hA2] at hR
    have hY := hI.1.1
    exact e_iret dX12_check_218 rfl (hp _ _ hR hS hF)
set_option maxRecDepth 20000 in
theorem rp_check (D : En) {h : AH} {s : SS} (hI : INV s) (hRS : RefS h s) (n : Int32) : Sp D 9 mX12_check [.ref (82), .int (n)] h 0 0 (some (.int (f_check s n).1)) (fun h' => RefS h' (f_check s n).2 ∧ FrR h h') := by
  obtain ⟨σ, τ, hR, hS⟩ := hRS
  have hY := hI.1.1
  have hnv := hY.2.1
  have htc10 := hY.2.2.2.1
  obtain ⟨h00, hh00⟩ : ∃ z, z = h := ⟨_, rfl⟩
  have hF : FrR h00 h := by rw [hh00]; exact FrR.rf
  intro post hp
  rw [← hh00] at hp
  show Ev D 9 mX12_check 0 [some (.ref (82)), some (.int (n)), none, none, none, none, none, none, none] [] h 0 0 post
  have hw20 := hI.1.2.2.1.2
  refine e_aload_n dX12_check_0 rfl ?_
  refine e_get dX12_check_1 fl_X12_9_12 hR.1 rfl ?_
  refine e_iconst (nI (4)) dX12_check_4 (by decide) ?_
  refine e_ild (4) (nI (wlN (sN s))) dX12_check_5 hR.2.1 rfl (by omega) (by decide) hI.1.2.2.1.1 ?_
  refine e_istore_n dX12_check_6 (by decide) ?_
  refine e_aload_n dX12_check_7 rfl ?_
  refine e_get dX12_check_8 fl_X12_9_12 hR.1 rfl ?_
  refine e_iconst (nI (4)) dX12_check_11 (by decide) ?_
  refine e_iconst (nI (0)) dX12_check_12 (by decide) ?_
  refine r_stN (4) dX12_check_13 hR hF rfl (by omega) (fun h hR hF => ?_)
  refine e_iload_n dX12_check_14 rfl ?_
  refine c_S1iR (N := mX12_isAhead) dX12_check_15 ls_X12_281 mo_X12_isAhead  (Nat.le_of_ble_eq_true rfl) (Nat.le_of_ble_eq_true rfl) (by decide) (s_isAhead D ((n))) ?_
  refine e_if_neB 28 dX12_check_18 (by decide) (fun hcq18 => ?_) (fun hcq18 => ?_)
  · obtain ⟨hn_n, hg_n, hl_n⟩ := wiN hcq18 (by decide) (by decide)
    refine lp_chk D (s := wtN s) (h00 := h00) (INV_wt hI) hR hF hS n hn_n (by omega) (wlN (sN s)) hI.1.2.2.1.2 (fun h9 σ9 a9 b9 d9 => ?_)
    rw [show f_check s n = (ckV (sN (wtN s)) (yrX (sN (wtN s)) (sN (wtN s)) (tn n)) (nvN (sN (wtN s))) (wlN (sN s)), wtN s) from if_pos hcq18] at hp
    exact hp _ ⟨⟨_, _, a9, b9⟩, d9⟩
  · refine e_aload_n dX12_check_21 rfl ?_
    refine e_ldc dX12_check_22 w_1294 ?_
    refine c_V1i (nc := 0) (ns := 0) (mc := 0) (ms := 0) (N := mX12_finding) dX12_check_24 lv_X12_90 mo_X12_finding hR.cn (Nat.le_of_ble_eq_true rfl) (Nat.le_of_ble_eq_true rfl) (by decide) (s_finding D hR 1 (by decide) (((-1000000001))) fE1) (fun h hP => ?_)
    obtain ⟨hR, hF1⟩ := hP
    have hF := hF.trans hF1
    have hS := hS.er 1
    refine e_top (lowE 1) lE1 ?_
    have e9 : f_check s n = er 1 (wN s (upd (sN s) (4) (nI (0)))) := if_neg hcq18
    rw [e9] at hp
    exact e_iret dX12_check_27 rfl (hp _ ⟨⟨_, _, hR, hS⟩, hF⟩)
