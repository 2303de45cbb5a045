theorem b2_ff : nI 0 = b2 (false = true) := by decide
theorem tapeT_eq (N : Nat → Int32) (u : Nat) : tapeT N u = eiW (tpR N) (tlN N) (onP (tpR N) (tlN N) u 5) (0, false, []) := by unfold tapeT txP; rfl
set_option maxRecDepth 20000 in
theorem lp_text (D : En) {s : SS} {τ : Nat → Int32} {h00 : AH} (hI : INV s) {post : Option Value → AH → Prop} {σ : Nat → Nat → Int32} {M0 : Nat → Int32} (y : List Nat) (len w : Nat) (hl50 : len ≤ 50) (hw : w < 3) (h3 : τ 3 = nI w) (h5 : τ 5 = nI len) (hc : ∀ i, i < len → σ 7 i = nI (y.getD i 0)) (u0 : Int32) (hp : ∀ h', RefAt h' (cpW y (252 + 52 * w + 1) M0 len) σ τ → FrR h00 h' → post (some (.int (nI 1))) h') : ∀ (j : Nat) (k : Nat) (h : AH) (M : Nat → Int32), (k + j = len) → (RefAt h M σ τ) → (FrR h00 h) → (M = cpW y (252 + 52 * w + 1) M0 k) → Ev D 46 mX12_text 118 [some (.ref (82)), some (.int (u0)), some (.int (nI (k)))] [] h 0 0 post := by
  intro j
  induction j with
  | zero =>
    intro k h M hm hR hF hM
    refine e_iload_n dX12_text_118 rfl ?_
    refine e_aload_n dX12_text_119 rfl ?_
    refine e_get dX12_text_120 fl_X12_184_12 hR.1 rfl ?_
    refine e_top (nI (len)) (h5) ?_
    refine e_icmp_geN 158 dX12_text_123 (by decide) (by omega) (by omega) (fun hcq123 => ?_) (fun hcq123 => absurd hcq123 (by omega))
    refine e_iconst (nI (1)) dX12_text_158 (by decide) ?_
    rw [show k = len by omega] at hM
    rw [hM] at hR
    exact e_iret dX12_text_159 rfl (hp _ hR hF)
  | succ j ih =>
    intro k h M hm hR hF hM
    refine e_iload_n dX12_text_118 rfl ?_
    refine e_aload_n dX12_text_119 rfl ?_
    refine e_get dX12_text_120 fl_X12_184_12 hR.1 rfl ?_
    refine e_top (nI (len)) (h5) ?_
    refine e_icmp_geN 158 dX12_text_123 (by decide) (by omega) (by omega) (fun hcq123 => absurd hcq123 (by omega)) (fun hcq123 => ?_)
    refine e_aload_n dX12_text_126 rfl ?_
    refine e_get dX12_text_127 fl_X12_9_12 hR.1 rfl ?_
    refine e_sipush (nI (252)) dX12_text_130 (by decide) ?_
    refine e_bipush (nI (52)) dX12_text_133 (by decide) ?_
    refine e_aload_n dX12_text_135 rfl ?_
    refine e_get dX12_text_136 fl_X12_209_12 hR.1 rfl ?_
    refine e_top (nI (w)) (h3) ?_
    refine e_imulN dX12_text_139 ?_
    refine e_iaddN dX12_text_140 ?_
    refine e_iconst (nI (1)) dX12_text_141 (by decide) ?_
    refine e_iaddN dX12_text_142 ?_
    refine e_iload_n dX12_text_143 rfl ?_
    refine e_iaddN dX12_text_144 ?_
    refine e_aload_n dX12_text_145 rfl ?_
    refine e_get dX12_text_146 fl_X12_40_12 hR.1 rfl ?_
    refine e_iload_n dX12_text_149 rfl ?_
    refine e_ild (k) ((nI (y.getD (k) 0))) dX12_text_150 (hR.2.2.1 7 (by decide) (by decide) (by decide)) rfl (by show _ < 60; omega) (by decide) (hc _ (by omega)) ?_
    refine r_stN (((252 + (52 * w)) + 1) + k) dX12_text_151 hR hF rfl (by omega) (fun h hR hF => ?_)
    refine e_iincN (k + 1) dX12_text_152 rfl (by decide) (nI_add _ _) ?_
    refine e_goto 118 dX12_text_155 (by decide) ?_
    exact ih (k + 1) h _ (by omega) hR hF (by rw [cpW, ← hM])
set_option maxRecDepth 20000 in
theorem rp_text (D : En) {h : AH} {s : SS} (hI : INV s) (hRS : RefS h s) (u : Int32) : Sp D 46 mX12_text [.ref (82), .int (u)] h 0 0 (some (.int (f_text s u).1)) (fun h' => RefS h' (f_text s u).2 ∧ FrR h h') := by
  obtain ⟨σ, τ, hR, hS⟩ := hRS
  have hY := hI.1.1
  have hnv := hY.2.1
  have htc10 := hY.2.2.2.1
  obtain ⟨h00, hh00⟩ : ∃ z, z = h := ⟨_, rfl⟩
  have hF : FrR h00 h := by rw [hh00]; exact FrR.rf
  intro post hp
  rw [← hh00] at hp
  show Ev D 46 mX12_text 0 [some (.ref (82)), some (.int (u)), none] [] h 0 0 post
  have ht50 := hI.1.2.1.2
  refine e_iload_n dX12_text_0 rfl ?_
  refine e_iconst (nI (0)) dX12_text_1 (by decide) ?_
  refine e_iconst (nI (2)) dX12_text_2 (by decide) ?_
  refine c_S3iR (N := mX12_within) dX12_text_3 ls_X12_76 mo_X12_within  (Nat.le_of_ble_eq_true rfl) (Nat.le_of_ble_eq_true rfl) (by decide) (s_within D ((u)) (nI (0)) (nI (2))) ?_
  refine e_if_neB 16 dX12_text_6 (by decide) (fun hcq6 => ?_) (fun hcq6 => ?_)
  · obtain ⟨hn_u, hg_u, hl_u⟩ := wiN hcq6 (by decide) (by decide)
    refine e_aload_n dX12_text_16 rfl ?_
    refine e_iload_n dX12_text_17 rfl ?_
    refine e_top (nI (tn u)) (hn_u) ?_
    refine r_put (upd (τ) 3 (nI (tn u))) dX12_text_18 fl_X12_209_12 hR hF rfl (by decide) rfl rfl rfl (fun h hR hF => ?_)
    refine e_aload_n dX12_text_21 rfl ?_
    refine e_iconst (nI (0)) dX12_text_22 (by decide) ?_
    refine r_put (upd (upd (τ) 3 (nI (tn u))) 1 (nI (0))) dX12_text_23 fl_X12_177_12 hR hF rfl (by decide) rfl rfl rfl (fun h hR hF => ?_)
    refine e_aload_n dX12_text_26 rfl ?_
    refine e_iconst (nI (0)) dX12_text_27 (by decide) ?_
    refine r_put (upd (upd (upd (τ) 3 (nI (tn u))) 1 (nI (0))) 2 (nI (0))) dX12_text_28 fl_X12_219_12 hR hF rfl (by decide) rfl rfl rfl (fun h hR hF => ?_)
    refine e_aload_n dX12_text_31 rfl ?_
    refine e_iconst (nI (0)) dX12_text_32 (by decide) ?_
    refine r_put (upd (upd (upd (upd (τ) 3 (nI (tn u))) 1 (nI (0))) 2 (nI (0))) 4 (nI (0))) dX12_text_33 fl_X12_173_12 hR hF rfl (by decide) rfl rfl rfl (fun h hR hF => ?_)
    refine e_aload_n dX12_text_36 rfl ?_
    refine e_iconst (nI (0)) dX12_text_37 (by decide) ?_
    refine r_put (upd (upd (upd (upd (upd (τ) 3 (nI (tn u))) 1 (nI (0))) 2 (nI (0))) 4 (nI (0))) 5 (nI (0))) dX12_text_38 fl_X12_184_12 hR hF rfl (by decide) rfl rfl rfl (fun h hR hF => ?_)
    refine e_aload_n dX12_text_41 rfl ?_
    refine c_V0v (nc := 0) (ns := 0) (mc := 0) (ms := 0) (N := mX12_either) dX12_text_42 lv_X12_222 mo_X12_either hR.cn (Nat.le_of_ble_eq_true rfl) (Nat.le_of_ble_eq_true rfl) (by decide) (s_eitherT D (show tn u < 3 by omega) hI.1.2.1.1 hI.1.2.1.2 h00 h (0, false, []) ⟨Nat.zero_le _, fun _ => Nat.zero_le _⟩ ⟨σ 7, _, by rw [upSelf]; exact hR, hF, rfl, rfl, rfl, b2_ff, rfl, fun i hi => absurd hi (Nat.not_lt_zero _), rfl, rfl, rfl⟩) (fun h hP => ?_)
    obtain ⟨c, τ2, hR, hF, hK⟩ := hP
    obtain ⟨y, hy⟩ : ∃ z, z = tapeT (sN s) (tn u) := ⟨_, rfl⟩
    have hK : PAt τ τ2 c (tn u) 0 y := by rw [hy, tapeT_eq]; exact hK
    have hG9 : GR (tlN (sN s)) (tn u) (0, false, []) y := by rw [hy, tapeT_eq]; exact GR_ei (GR_on _ _ _ 5) _
    have hyl : y.1 ≤ tlN (sN s) := hG9.2.1 (Nat.zero_le _)
    have hS := hS.to (σ' := va_up σ 7 c) (τ' := τ2) (fun i hi => va_upN _ _ hi.2.2.1) hK.2.2.2.2.2.2.1 hK.2.2.2.2.2.2.2.1
    refine e_aload_n dX12_text_45 rfl ?_
    refine e_aload_n dX12_text_46 rfl ?_
    refine e_get dX12_text_47 fl_X12_173_12 hR.1 rfl ?_
    refine e_top (b2 (y.2.1 = true)) (hK.2.2.2.1) ?_
    refine e_if_neB 66 dX12_text_50 (by decide) (fun hcq50 => ?_) (fun hcq50 => ?_)
    · refine e_iconst (nI (1)) dX12_text_66 (by decide) ?_
      refine e_goto 71 dX12_text_67 (by decide) ?_
      refine r_put (upd τ2 4 (nI (1))) dX12_text_71 fl_X12_173_12 hR hF rfl (by decide) rfl rfl rfl (fun h hR hF => ?_)
      have hS := hS.to (τ' := upd τ2 4 (nI (1))) (fun i hi => rfl) (pk_un (by decide)) (pk_un (by decide))
      refine e_aload_n dX12_text_74 rfl ?_
      refine e_get dX12_text_75 fl_X12_9_12 hR.1 rfl ?_
      refine e_iconst (nI (3)) dX12_text_78 (by decide) ?_
      refine e_iconst (nI (0)) dX12_text_79 (by decide) ?_
      refine r_stN (3) dX12_text_80 hR hF rfl (by omega) (fun h hR hF => ?_)
      refine e_aload_n dX12_text_81 rfl ?_
      refine e_get dX12_text_82 fl_X12_173_12 hR.1 rfl ?_
      refine e_top (nI (1)) (pk_us) ?_
      refine e_if_eqN 96 dX12_text_85 (by decide) (by omega) (fun hcq85 => absurd hcq85 (by decide)) (fun hcq85 => ?_)
      refine e_bipush (((-10))) dX12_text_88 (by decide) ?_
      refine e_aload_n dX12_text_90 rfl ?_
      refine e_get dX12_text_91 fl_X12_177_12 hR.1 rfl ?_
      refine e_top (nI (y.1)) ((pk_un (by decide)).trans hK.1) ?_
      refine e_isub dX12_text_94 ?_
      have e9 : f_text s u = ((((-10)) - nI (y.1)), wN s (upd (sN s) (3) (nI (0)))) := by rw [f_text, if_pos hcq6, ← hy, if_pos (Or.inl hcq50)]
      rw [e9] at hp
      exact e_iret dX12_text_95 rfl (hp _ ⟨⟨_, _, hR, hS⟩, hF⟩)
    · refine e_aload_n dX12_text_53 rfl ?_
      refine e_get dX12_text_54 fl_X12_177_12 hR.1 rfl ?_
      refine e_top (nI (y.1)) (hK.1) ?_
      refine e_aload_n dX12_text_57 rfl ?_
      refine e_get dX12_text_58 fl_X12_9_12 hR.1 rfl ?_
      refine e_iconst (nI (3)) dX12_text_61 (by decide) ?_
      refine e_ild (3) (nI (tlN (sN s))) dX12_text_62 hR.2.1 rfl (by omega) (by decide) hI.1.2.1.1 ?_
      refine e_icmp_geN 70 dX12_text_63 (by decide) (by omega) (by omega) (fun hcq63 => ?_) (fun hcq63 => ?_)
      · refine e_iconst (nI (0)) dX12_text_70 (by decide) ?_
        refine r_put (upd τ2 4 (nI (0))) dX12_text_71 fl_X12_173_12 hR hF rfl (by decide) rfl rfl rfl (fun h hR hF => ?_)
        have hS := hS.to (τ' := upd τ2 4 (nI (0))) (fun i hi => rfl) (pk_un (by decide)) (pk_un (by decide))
        refine e_aload_n dX12_text_74 rfl ?_
        refine e_get dX12_text_75 fl_X12_9_12 hR.1 rfl ?_
        refine e_iconst (nI (3)) dX12_text_78 (by decide) ?_
        refine e_iconst (nI (0)) dX12_text_79 (by decide) ?_
        refine r_stN (3) dX12_text_80 hR hF rfl (by omega) (fun h hR hF => ?_)
        refine e_aload_n dX12_text_81 rfl ?_
        refine e_get dX12_text_82 fl_X12_173_12 hR.1 rfl ?_
        refine e_top (nI (0)) (pk_us) ?_
        refine e_if_eqN 96 dX12_text_85 (by decide) (by omega) (fun hcq85 => ?_) (fun hcq85 => absurd hcq85 (by decide))
        refine e_aload_n dX12_text_96 rfl ?_
        refine e_get dX12_text_97 fl_X12_9_12 hR.1 rfl ?_
        refine e_sipush (nI (252)) dX12_text_100 (by decide) ?_
        refine e_bipush (nI (52)) dX12_text_103 (by decide) ?_
        refine e_aload_n dX12_text_105 rfl ?_
        refine e_get dX12_text_106 fl_X12_209_12 hR.1 rfl ?_
        refine e_top (nI (tn u)) ((pk_un (by decide)).trans hK.2.2.1) ?_
        refine e_imulN dX12_text_109 ?_
        refine e_iaddN dX12_text_110 ?_
        refine e_aload_n dX12_text_111 rfl ?_
        refine e_get dX12_text_112 fl_X12_184_12 hR.1 rfl ?_
        refine e_top (nI (y.2.2.length)) ((pk_un (by decide)).trans hK.2.2.2.2.1) ?_
        refine r_stN (252 + (52 * (tn u))) dX12_text_115 hR hF rfl (by omega) (fun h hR hF => ?_)
        refine e_iconst (nI (0)) dX12_text_116 (by decide) ?_
        refine e_istore_n dX12_text_117 (by decide) ?_
        have hnb : ¬ bad (tpR (sN s)) (tlN (sN s)) (tn u) := by
          intro zz
          have zy : y.2.1 = true ∨ y.1 < tlN (sN s) := by rw [hy]; unfold tapeT; exact zz
          rcases zy with z9 | z9
          · exact hcq50 z9
          · omega
        have hl50 : y.2.2.length ≤ tlN (sN s) := by rw [hy]; unfold tapeT; exact (txP_ok hnb).1
        refine lp_text D hI y.2.2 y.2.2.length (tn u) (by omega) (by omega) ((pk_un (by decide)).trans hK.2.2.1) ((pk_un (by decide)).trans hK.2.2.2.2.1) (fun i hi => by rw [va_upS]; exact hK.2.2.2.2.2.1 i hi) u (fun h9 a9 b9 => ?_) y.2.2.length 0 h _ (by omega) hR hF rfl
        have e9 : f_text s u = (nI 1, wN s (txM (sN s) y (tn u))) := by rw [f_text, if_pos hcq6, if_neg (show ¬ ((tapeT (sN s) (tn u)).2.1 = true ∨ (tapeT (sN s) (tn u)).1 < tlN (sN s)) by unfold tapeT; exact hnb), txW, ← hy]
        rw [e9] at hp
        exact hp _ ⟨⟨_, _, a9, hS⟩, b9⟩
      · refine e_iconst (nI (1)) dX12_text_66 (by decide) ?_
        refine e_goto 71 dX12_text_67 (by decide) ?_
        refine r_put (upd τ2 4 (nI (1))) dX12_text_71 fl_X12_173_12 hR hF rfl (by decide) rfl rfl rfl (fun h hR hF => ?_)
        have hS := hS.to (τ' := upd τ2 4 (nI (1))) (fun i hi => rfl) (pk_un (by decide)) (pk_un (by decide))
        refine e_aload_n dX12_text_74 rfl ?_
        refine e_get dX12_text_75 fl_X12_9_12 hR.1 rfl ?_
        refine e_iconst (nI (3)) dX12_text_78 (by decide) ?_
        refine e_iconst (nI (0)) dX12_text_79 (by decide) ?_
        refine r_stN (3) dX12_text_80 hR hF rfl (by omega) (fun h hR hF => ?_)
        refine e_aload_n dX12_text_81 rfl ?_
        refine e_get dX12_text_82 fl_X12_173_12 hR.1 rfl ?_
        refine e_top (nI (1)) (pk_us) ?_
        refine e_if_eqN 96 dX12_text_85 (by decide) (by omega) (fun hcq85 => absurd hcq85 (by decide)) (fun hcq85 => ?_)
        refine e_bipush (((-10))) dX12_text_88 (by decide) ?_
        refine e_aload_n dX12_text_90 rfl ?_
        refine e_get dX12_text_91 fl_X12_177_12 hR.1 rfl ?_
        refine e_top (nI (y.1)) ((pk_un (by decide)).trans hK.1) ?_
        refine e_isub dX12_text_94 ?_
        have e9 : f_text s u = ((((-10)) - nI (y.1)), wN s (upd (sN s) (3) (nI (0)))) := by rw [f_text, if_pos hcq6, ← hy, if_pos (Or.inr hcq63)]
        rw [e9] at hp
        exact e_iret dX12_text_95 rfl (hp _ ⟨⟨_, _, hR, hS⟩, hF⟩)
  · refine e_aload_n dX12_text_9 rfl ?_
    refine e_ldc dX12_text_10 w_1294 ?_
    refine c_V1i (nc := 0) (ns := 0) (mc := 0) (ms := 0) (N := mX12_finding) dX12_text_12 lv_X12_90 mo_X12_finding hR.cn (Nat.le_of_ble_eq_true rfl) (Nat.le_of_ble_eq_true rfl) (by decide) (s_finding D hR 1 (by decide) (((-1000000001))) fE1) (fun h hP => ?_)
    obtain ⟨hR, hF1⟩ := hP
    have hF := hF.trans hF1
    have hS := hS.er 1
    refine e_top (lowE 1) lE1 ?_
    have e9 : f_text s u = er 1 (s) := by rw [f_text, if_neg hcq6]
    rw [e9] at hp
    exact e_iret dX12_text_15 rfl (hp _ ⟨⟨_, _, hR, hS⟩, hF⟩)
theorem RS.h {σ : Nat → Nat → Int32} {τ : Nat → Int32} {s : SS} (hS : RS σ τ s) (k : Nat) (b z : Int32) (Q : Nat → Int32) : RS (va_up (va_up (va_up σ 14 (upd (σ 14) k b)) 15 (upd (σ 15) k z)) 16 Q) τ (wH s (upd (sW s) k b) (upd (sZ s) k z) Q) := by
  obtain ⟨⟨a1, a2, a3, a4, a5, a6⟩, b', c⟩ := hS
  refine ⟨⟨a1, a2, a3, ?_, ?_, rfl⟩, b', c⟩
  · show upd (σ 14) k b = upd (sW s) k b
    rw [a4]
  · show upd (σ 15) k z = upd (sZ s) k z
    rw [a5]
set_option maxRecDepth 20000 in
theorem lp_sheet (D : En) {s : SS} {τ : Nat → Int32} {h00 : AH} (hI : INV s) {post : Option Value → AH → Prop} {σ0 : Nat → Nat → Int32} {Z0 : Nat → Int32} (g b n : Int32) (w : Nat) (hn_g : g = nI w) (hw : w < 4) (hp : ∀ h', RefAt h' (sN s) (va_up σ0 16 (zeW Z0 (40 * w) 40)) τ → FrR h00 h' → post (some (.int (nI 1))) h') : ∀ (j : Nat) (k : Nat) (h : AH) (Z : Nat → Int32), (k + j = 40) → (RefAt h (sN s) (va_up σ0 16 Z) τ) → (FrR h00 h) → (Z = zeW Z0 (40 * w) k) → Ev D 2 mX12_sheet 94 [some (.ref (82)), some (.int (g)), some (.int (b)), some (.int (n)), some (.int (nI (k)))] [] h 0 0 post := by
  intro j
  induction j with
  | zero =>
    intro k h Z hm hR hF hZ
    refine e_iload dX12_sheet_94 rfl ?_
    refine e_bipush (nI (40)) dX12_sheet_96 (by decide) ?_
    refine e_icmp_geN 120 dX12_sheet_98 (by decide) (by omega) (by omega) (fun hcq98 => ?_) (fun hcq98 => absurd hcq98 (by omega))
    refine e_iconst (nI (1)) dX12_sheet_120 (by decide) ?_
    rw [show k = 40 by omega] at hZ
    rw [hZ] at hR
    exact e_iret dX12_sheet_121 rfl (hp _ hR hF)
  | succ j ih =>
    intro k h Z hm hR hF hZ
    refine e_iload dX12_sheet_94 rfl ?_
    refine e_bipush (nI (40)) dX12_sheet_96 (by decide) ?_
    refine e_icmp_geN 120 dX12_sheet_98 (by decide) (by omega) (by omega) (fun hcq98 => absurd hcq98 (by omega)) (fun hcq98 => ?_)
    refine e_aload_n dX12_sheet_101 rfl ?_
    refine e_get dX12_sheet_102 fl_X12_69_12 hR.1 rfl ?_
    refine e_bipush (nI (40)) dX12_sheet_105 (by decide) ?_
    refine e_iload_n dX12_sheet_107 rfl ?_
    refine e_top (nI (w)) (hn_g) ?_
    refine e_imulN dX12_sheet_108 ?_
    refine e_iload dX12_sheet_109 rfl ?_
    refine e_iaddN dX12_sheet_111 ?_
    refine e_iconst (nI (0)) dX12_sheet_112 (by decide) ?_
    refine r_st 16 ((40 * w) + k) dX12_sheet_113 hR hF rfl (by decide) rfl (by show _ < 160; omega) (fun h hR hF => ?_)
    rw [va_upUp, va_upS] at hR
    refine e_iincN (k + 1) dX12_sheet_114 rfl (by decide) (nI_add _ _) ?_
    refine e_goto 94 dX12_sheet_117 (by decide) ?_
    exact ih (k + 1) h _ (by omega) hR hF (by rw [zeW, ← hZ])
set_option maxRecDepth 20000 in
theorem rp_sheet (D : En) {h : AH} {s : SS} (hI : INV s) (hRS : RefS h s) (g : Int32) (b : Int32) (n : Int32) : Sp D 2 mX12_sheet [.ref (82), .int (g), .int (b), .int (n)] h 0 0 (some (.int (f_sheet s g b n).1)) (fun h' => RefS h' (f_sheet s g b n).2 ∧ FrR h h') := by
  obtain ⟨σ, τ, hR, hS⟩ := hRS
  have hY := hI.1.1
  have hnv := hY.2.1
  have htc10 := hY.2.2.2.1
  obtain ⟨h00, hh00⟩ : ∃ z, z = h := ⟨_, rfl⟩
  have hF : FrR h00 h := by rw [hh00]; exact FrR.rf
  intro post hp
  rw [← hh00] at hp
  show Ev D 2 mX12_sheet 0 [some (.ref (82)), some (.int (g)), some (.int (b)), some (.int (n)), none] [] h 0 0 post
  refine e_iload_n dX12_sheet_0 rfl ?_
  refine c_S1iR (N := mX12_isSheet) dX12_sheet_1 ls_X12_116 mo_X12_isSheet  (Nat.le_of_ble_eq_true rfl) (Nat.le_of_ble_eq_true rfl) (by decide) (s_isSheet D ((g))) ?_
  refine e_if_eqB 29 dX12_sheet_4 (by decide) (fun hcq4 => ?_) (fun hcq4 => ?_)
  · refine e_aload_n dX12_sheet_29 rfl ?_
    refine e_ldc dX12_sheet_30 w_1294 ?_
    refine c_V1i (nc := 0) (ns := 0) (mc := 0) (ms := 0) (N := mX12_finding) dX12_sheet_32 lv_X12_90 mo_X12_finding hR.cn (Nat.le_of_ble_eq_true rfl) (Nat.le_of_ble_eq_true rfl) (by decide) (s_finding D hR 1 (by decide) (((-1000000001))) fE1) (fun h hP => ?_)
    obtain ⟨hR, hF1⟩ := hP
    have hF := hF.trans hF1
    have hS := hS.er 1
    refine e_top (lowE 1) lE1 ?_
    have e9 : f_sheet s g b n = er 1 (s) := by rw [f_sheet, if_neg hcq4]
    rw [e9] at hp
    exact e_iret dX12_sheet_35 rfl (hp _ ⟨⟨_, _, hR, hS⟩, hF⟩)
  · obtain ⟨hn_g, hg_g, hl_g⟩ := wiN hcq4 (by decide) (by decide)
    refine e_iload_n dX12_sheet_7 rfl ?_
    refine e_if_eq 36 dX12_sheet_8 (by decide) (fun hcq8 => ?_) (fun hcq8 => ?_)
    · refine e_iload_n dX12_sheet_36 rfl ?_
      refine e_if_eq 52 dX12_sheet_37 (by decide) (fun hcq37 => ?_) (fun hcq37 => absurd hcq8 hcq37)
      refine e_iload_n dX12_sheet_52 rfl ?_
      refine e_if_eq 69 dX12_sheet_53 (by decide) (fun hcq53 => ?_) (fun hcq53 => absurd hcq8 hcq53)
      refine e_aload_n dX12_sheet_69 rfl ?_
      refine e_get dX12_sheet_70 fl_X12_63_12 hR.1 rfl ?_
      refine e_iload_n dX12_sheet_73 rfl ?_
      refine e_top (nI (tn g)) (hn_g) ?_
      refine e_iload_n dX12_sheet_74 rfl ?_
      refine r_st 14 (tn g) dX12_sheet_75 hR hF rfl (by decide) rfl (by show _ < 4; omega) (fun h hR hF => ?_)
      refine e_aload_n dX12_sheet_76 rfl ?_
      refine e_get dX12_sheet_77 fl_X12_66_12 hR.1 rfl ?_
      refine e_iload_n dX12_sheet_80 rfl ?_
      refine e_top (nI (tn g)) (hn_g) ?_
      refine e_iload_n dX12_sheet_81 rfl ?_
      refine e_if_ne 89 dX12_sheet_82 (by decide) (fun hcq82 => absurd hcq8 hcq82) (fun hcq82 => ?_)
      refine e_iconst (nI (0)) dX12_sheet_85 (by decide) ?_
      refine e_goto 90 dX12_sheet_86 (by decide) ?_
      refine r_st 15 (tn g) dX12_sheet_90 hR hF rfl (by decide) rfl (by show _ < 4; omega) (fun h hR hF => ?_)
      refine e_iconst (nI (0)) dX12_sheet_91 (by decide) ?_
      refine e_istore dX12_sheet_92 (by decide) ?_
      refine lp_sheet D hI (σ0 := (va_up (va_up σ 14 (upd (σ 14) (tn g) b)) 15 (upd (va_up σ 14 (upd (σ 14) (tn g) b) 15) (tn g) (nI (0))))) (Z0 := (va_up (va_up σ 14 (upd (σ 14) (tn g) b)) 15 (upd (va_up σ 14 (upd (σ 14) (tn g) b) 15) (tn g) (nI (0)))) 16) g b n (tn g) hn_g (by omega) (fun h9 a9 b9 => ?_) 40 0 h ((va_up (va_up σ 14 (upd (σ 14) (tn g) b)) 15 (upd (va_up σ 14 (upd (σ 14) (tn g) b) 15) (tn g) (nI (0)))) 16) (by omega) (by rw [upSelf]; exact hR) hF rfl
      have e9 : f_sheet s g b n = (nI 1, shS s (tn g) b (nI (0))) := by rw [f_sheet, if_pos hcq4, if_pos hcq8]
      rw [e9] at hp
      have hS9 := hS.h (tn g) b (nI (0)) (zeW (sQ s) (40 * tn g) 40)
      rw [show (va_up (va_up σ 14 (upd (σ 14) (tn g) b)) 15 (upd (va_up σ 14 (upd (σ 14) (tn g) b) 15) (tn g) (nI (0)))) 16 = sQ s from hS.1.2.2.2.2.2] at a9
      exact hp _ ⟨⟨_, _, a9, hS9⟩, b9⟩
    · refine e_iload_n dX12_sheet_11 rfl ?_
      refine e_bipush (nI (8)) dX12_sheet_12 (by decide) ?_
      refine e_icmp_eq 36 dX12_sheet_14 (by decide) (fun hcq14 => ?_) (fun hcq14 => ?_)
      · refine e_iload_n dX12_sheet_36 rfl ?_
        refine e_if_eq 52 dX12_sheet_37 (by decide) (fun hcq37 => absurd hcq37 (by rw [hcq14]; decide)) (fun hcq37 => ?_)
        refine e_iload_n dX12_sheet_40 rfl ?_
        refine e_if_ge 52 dX12_sheet_41 (by decide) (fun hcq41 => ?_) (fun hcq41 => ?_)
        · refine e_iload_n dX12_sheet_52 rfl ?_
          refine e_if_eq 69 dX12_sheet_53 (by decide) (fun hcq53 => absurd hcq53 (by rw [hcq14]; decide)) (fun hcq53 => ?_)
          refine e_iload_n dX12_sheet_56 rfl ?_
          refine e_bipush (nI (40)) dX12_sheet_57 (by decide) ?_
          refine e_icmp_le 69 dX12_sheet_59 (by decide) (fun hcq59 => ?_) (fun hcq59 => ?_)
          · refine e_aload_n dX12_sheet_69 rfl ?_
            refine e_get dX12_sheet_70 fl_X12_63_12 hR.1 rfl ?_
            refine e_iload_n dX12_sheet_73 rfl ?_
            refine e_top (nI (tn g)) (hn_g) ?_
            refine e_iload_n dX12_sheet_74 rfl ?_
            refine r_st 14 (tn g) dX12_sheet_75 hR hF rfl (by decide) rfl (by show _ < 4; omega) (fun h hR hF => ?_)
            refine e_aload_n dX12_sheet_76 rfl ?_
            refine e_get dX12_sheet_77 fl_X12_66_12 hR.1 rfl ?_
            refine e_iload_n dX12_sheet_80 rfl ?_
            refine e_top (nI (tn g)) (hn_g) ?_
            refine e_iload_n dX12_sheet_81 rfl ?_
            refine e_if_ne 89 dX12_sheet_82 (by decide) (fun hcq82 => ?_) (fun hcq82 => absurd hcq82 (by rw [hcq14]; decide))
            refine e_iload_n dX12_sheet_89 rfl ?_
            refine r_st 15 (tn g) dX12_sheet_90 hR hF rfl (by decide) rfl (by show _ < 4; omega) (fun h hR hF => ?_)
            refine e_iconst (nI (0)) dX12_sheet_91 (by decide) ?_
            refine e_istore dX12_sheet_92 (by decide) ?_
            refine lp_sheet D hI (σ0 := (va_up (va_up σ 14 (upd (σ 14) (tn g) b)) 15 (upd (va_up σ 14 (upd (σ 14) (tn g) b) 15) (tn g) ((n))))) (Z0 := (va_up (va_up σ 14 (upd (σ 14) (tn g) b)) 15 (upd (va_up σ 14 (upd (σ 14) (tn g) b) 15) (tn g) ((n)))) 16) g b n (tn g) hn_g (by omega) (fun h9 a9 b9 => ?_) 40 0 h ((va_up (va_up σ 14 (upd (σ 14) (tn g) b)) 15 (upd (va_up σ 14 (upd (σ 14) (tn g) b) 15) (tn g) ((n)))) 16) (by omega) (by rw [upSelf]; exact hR) hF rfl
            have e9 : f_sheet s g b n = (nI 1, shS s (tn g) b ((n))) := by rw [f_sheet, if_pos hcq4, if_neg (by rw [hcq14]; decide), if_pos (Or.inl hcq14), if_pos hcq41, if_pos hcq59]
            rw [e9] at hp
            have hS9 := hS.h (tn g) b ((n)) (zeW (sQ s) (40 * tn g) 40)
            rw [show (va_up (va_up σ 14 (upd (σ 14) (tn g) b)) 15 (upd (va_up σ 14 (upd (σ 14) (tn g) b) 15) (tn g) ((n)))) 16 = sQ s from hS.1.2.2.2.2.2] at a9
            exact hp _ ⟨⟨_, _, a9, hS9⟩, b9⟩
          · refine e_aload_n dX12_sheet_62 rfl ?_
            refine e_ldc dX12_sheet_63 w_1294 ?_
            refine c_V1i (nc := 0) (ns := 0) (mc := 0) (ms := 0) (N := mX12_finding) dX12_sheet_65 lv_X12_90 mo_X12_finding hR.cn (Nat.le_of_ble_eq_true rfl) (Nat.le_of_ble_eq_true rfl) (by decide) (s_finding D hR 1 (by decide) (((-1000000001))) fE1) (fun h hP => ?_)
            obtain ⟨hR, hF1⟩ := hP
            have hF := hF.trans hF1
            have hS := hS.er 1
            refine e_top (lowE 1) lE1 ?_
            have e9 : f_sheet s g b n = er 1 (s) := by rw [f_sheet, if_pos hcq4, if_neg (by rw [hcq14]; decide), if_pos (Or.inl hcq14), if_pos hcq41, if_neg hcq59]
            rw [e9] at hp
            exact e_iret dX12_sheet_68 rfl (hp _ ⟨⟨_, _, hR, hS⟩, hF⟩)
        · refine e_aload_n dX12_sheet_44 rfl ?_
          refine e_ldcw dX12_sheet_45 w_1540 ?_
          refine c_V1i (nc := 0) (ns := 0) (mc := 0) (ms := 0) (N := mX12_finding) dX12_sheet_48 lv_X12_90 mo_X12_finding hR.cn (Nat.le_of_ble_eq_true rfl) (Nat.le_of_ble_eq_true rfl) (by decide) (s_finding D hR 3 (by decide) (((-1000000003))) fE3) (fun h hP => ?_)
          obtain ⟨hR, hF1⟩ := hP
          have hF := hF.trans hF1
          have hS := hS.er 3
          refine e_top (lowE 3) lE3 ?_
          have e9 : f_sheet s g b n = er 3 (s) := by rw [f_sheet, if_pos hcq4, if_neg (by rw [hcq14]; decide), if_pos (Or.inl hcq14), if_neg hcq41]
          rw [e9] at hp
          exact e_iret dX12_sheet_51 rfl (hp _ ⟨⟨_, _, hR, hS⟩, hF⟩)
      · refine e_iload_n dX12_sheet_17 rfl ?_
        refine e_bipush (nI (16)) dX12_sheet_18 (by decide) ?_
        refine e_icmp_eq 36 dX12_sheet_20 (by decide) (fun hcq20 => ?_) (fun hcq20 => ?_)
        · refine e_iload_n dX12_sheet_36 rfl ?_
          refine e_if_eq 52 dX12_sheet_37 (by decide) (fun hcq37 => absurd hcq37 (by rw [hcq20]; decide)) (fun hcq37 => ?_)
          refine e_iload_n dX12_sheet_40 rfl ?_
          refine e_if_ge 52 dX12_sheet_41 (by decide) (fun hcq41 => ?_) (fun hcq41 => ?_)
          · refine e_iload_n dX12_sheet_52 rfl ?_
            refine e_if_eq 69 dX12_sheet_53 (by decide) (fun hcq53 => absurd hcq53 (by rw [hcq20]; decide)) (fun hcq53 => ?_)
            refine e_iload_n dX12_sheet_56 rfl ?_
            refine e_bipush (nI (40)) dX12_sheet_57 (by decide) ?_
            refine e_icmp_le 69 dX12_sheet_59 (by decide) (fun hcq59 => ?_) (fun hcq59 => ?_)
            · refine e_aload_n dX12_sheet_69 rfl ?_
              refine e_get dX12_sheet_70 fl_X12_63_12 hR.1 rfl ?_
              refine e_iload_n dX12_sheet_73 rfl ?_
              refine e_top (nI (tn g)) (hn_g) ?_
              refine e_iload_n dX12_sheet_74 rfl ?_
              refine r_st 14 (tn g) dX12_sheet_75 hR hF rfl (by decide) rfl (by show _ < 4; omega) (fun h hR hF => ?_)
              refine e_aload_n dX12_sheet_76 rfl ?_
              refine e_get dX12_sheet_77 fl_X12_66_12 hR.1 rfl ?_
              refine e_iload_n dX12_sheet_80 rfl ?_
              refine e_top (nI (tn g)) (hn_g) ?_
              refine e_iload_n dX12_sheet_81 rfl ?_
              refine e_if_ne 89 dX12_sheet_82 (by decide) (fun hcq82 => ?_) (fun hcq82 => absurd hcq82 (by rw [hcq20]; decide))
              refine e_iload_n dX12_sheet_89 rfl ?_
              refine r_st 15 (tn g) dX12_sheet_90 hR hF rfl (by decide) rfl (by show _ < 4; omega) (fun h hR hF => ?_)
              refine e_iconst (nI (0)) dX12_sheet_91 (by decide) ?_
              refine e_istore dX12_sheet_92 (by decide) ?_
              refine lp_sheet D hI (σ0 := (va_up (va_up σ 14 (upd (σ 14) (tn g) b)) 15 (upd (va_up σ 14 (upd (σ 14) (tn g) b) 15) (tn g) ((n))))) (Z0 := (va_up (va_up σ 14 (upd (σ 14) (tn g) b)) 15 (upd (va_up σ 14 (upd (σ 14) (tn g) b) 15) (tn g) ((n)))) 16) g b n (tn g) hn_g (by omega) (fun h9 a9 b9 => ?_) 40 0 h ((va_up (va_up σ 14 (upd (σ 14) (tn g) b)) 15 (upd (va_up σ 14 (upd (σ 14) (tn g) b) 15) (tn g) ((n)))) 16) (by omega) (by rw [upSelf]; exact hR) hF rfl
              have e9 : f_sheet s g b n = (nI 1, shS s (tn g) b ((n))) := by rw [f_sheet, if_pos hcq4, if_neg (by rw [hcq20]; decide), if_pos (Or.inr (Or.inl hcq20)), if_pos hcq41, if_pos hcq59]
              rw [e9] at hp
              have hS9 := hS.h (tn g) b ((n)) (zeW (sQ s) (40 * tn g) 40)
              rw [show (va_up (va_up σ 14 (upd (σ 14) (tn g) b)) 15 (upd (va_up σ 14 (upd (σ 14) (tn g) b) 15) (tn g) ((n)))) 16 = sQ s from hS.1.2.2.2.2.2] at a9
              exact hp _ ⟨⟨_, _, a9, hS9⟩, b9⟩
            · refine e_aload_n dX12_sheet_62 rfl ?_
              refine e_ldc dX12_sheet_63 w_1294 ?_
              refine c_V1i (nc := 0) (ns := 0) (mc := 0) (ms := 0) (N := mX12_finding) dX12_sheet_65 lv_X12_90 mo_X12_finding hR.cn (Nat.le_of_ble_eq_true rfl) (Nat.le_of_ble_eq_true rfl) (by decide) (s_finding D hR 1 (by decide) (((-1000000001))) fE1) (fun h hP => ?_)
              obtain ⟨hR, hF1⟩ := hP
              have hF := hF.trans hF1
              have hS := hS.er 1
              refine e_top (lowE 1) lE1 ?_
              have e9 : f_sheet s g b n = er 1 (s) := by rw [f_sheet, if_pos hcq4, if_neg (by rw [hcq20]; decide), if_pos (Or.inr (Or.inl hcq20)), if_pos hcq41, if_neg hcq59]
              rw [e9] at hp
              exact e_iret dX12_sheet_68 rfl (hp _ ⟨⟨_, _, hR, hS⟩, hF⟩)
          · refine e_aload_n dX12_sheet_44 rfl ?_
            refine e_ldcw dX12_sheet_45 w_1540 ?_
            refine c_V1i (nc := 0) (ns := 0) (mc := 0) (ms := 0) (N := mX12_finding) dX12_sheet_48 lv_X12_90 mo_X12_finding hR.cn (Nat.le_of_ble_eq_true rfl) (Nat.le_of_ble_eq_true rfl) (by decide) (s_finding D hR 3 (by decide) (((-1000000003))) fE3) (fun h hP => ?_)
            obtain ⟨hR, hF1⟩ := hP
            have hF := hF.trans hF1
            have hS := hS.er 3
            refine e_top (lowE 3) lE3 ?_
            have e9 : f_sheet s g b n = er 3 (s) := by rw [f_sheet, if_pos hcq4, if_neg (by rw [hcq20]; decide), if_pos (Or.inr (Or.inl hcq20)), if_neg hcq41]
            rw [e9] at hp
            exact e_iret dX12_sheet_51 rfl (hp _ ⟨⟨_, _, hR, hS⟩, hF⟩)
        · refine e_iload_n dX12_sheet_23 rfl ?_
          refine e_bipush (nI (32)) dX12_sheet_24 (by decide) ?_
          refine e_icmp_eq 36 dX12_sheet_26 (by decide) (fun hcq26 => ?_) (fun hcq26 => ?_)
          · refine e_iload_n dX12_sheet_36 rfl ?_
            refine e_if_eq 52 dX12_sheet_37 (by decide) (fun hcq37 => absurd hcq37 (by rw [hcq26]; decide)) (fun hcq37 => ?_)
            refine e_iload_n dX12_sheet_40 rfl ?_
            refine e_if_ge 52 dX12_sheet_41 (by decide) (fun hcq41 => ?_) (fun hcq41 => ?_)
            · refine e_iload_n dX12_sheet_52 rfl ?_
              refine e_if_eq 69 dX12_sheet_53 (by decide) (fun hcq53 => absurd hcq53 (by rw [hcq26]; decide)) (fun hcq53 => ?_)
              refine e_iload_n dX12_sheet_56 rfl ?_
              refine e_bipush (nI (40)) dX12_sheet_57 (by decide) ?_
              refine e_icmp_le 69 dX12_sheet_59 (by decide) (fun hcq59 => ?_) (fun hcq59 => ?_)
              · refine e_aload_n dX12_sheet_69 rfl ?_
                refine e_get dX12_sheet_70 fl_X12_63_12 hR.1 rfl ?_
                refine e_iload_n dX12_sheet_73 rfl ?_
                refine e_top (nI (tn g)) (hn_g) ?_
                refine e_iload_n dX12_sheet_74 rfl ?_
                refine r_st 14 (tn g) dX12_sheet_75 hR hF rfl (by decide) rfl (by show _ < 4; omega) (fun h hR hF => ?_)
                refine e_aload_n dX12_sheet_76 rfl ?_
                refine e_get dX12_sheet_77 fl_X12_66_12 hR.1 rfl ?_
                refine e_iload_n dX12_sheet_80 rfl ?_
                refine e_top (nI (tn g)) (hn_g) ?_
                refine e_iload_n dX12_sheet_81 rfl ?_
                refine e_if_ne 89 dX12_sheet_82 (by decide) (fun hcq82 => ?_) (fun hcq82 => absurd hcq82 (by rw [hcq26]; decide))
                refine e_iload_n dX12_sheet_89 rfl ?_
                refine r_st 15 (tn g) dX12_sheet_90 hR hF rfl (by decide) rfl (by show _ < 4; omega) (fun h hR hF => ?_)
                refine e_iconst (nI (0)) dX12_sheet_91 (by decide) ?_
                refine e_istore dX12_sheet_92 (by decide) ?_
                refine lp_sheet D hI (σ0 := (va_up (va_up σ 14 (upd (σ 14) (tn g) b)) 15 (upd (va_up σ 14 (upd (σ 14) (tn g) b) 15) (tn g) ((n))))) (Z0 := (va_up (va_up σ 14 (upd (σ 14) (tn g) b)) 15 (upd (va_up σ 14 (upd (σ 14) (tn g) b) 15) (tn g) ((n)))) 16) g b n (tn g) hn_g (by omega) (fun h9 a9 b9 => ?_) 40 0 h ((va_up (va_up σ 14 (upd (σ 14) (tn g) b)) 15 (upd (va_up σ 14 (upd (σ 14) (tn g) b) 15) (tn g) ((n)))) 16) (by omega) (by rw [upSelf]; exact hR) hF rfl
                have e9 : f_sheet s g b n = (nI 1, shS s (tn g) b ((n))) := by rw [f_sheet, if_pos hcq4, if_neg (by rw [hcq26]; decide), if_pos (Or.inr (Or.inr hcq26)), if_pos hcq41, if_pos hcq59]
                rw [e9] at hp
                have hS9 := hS.h (tn g) b ((n)) (zeW (sQ s) (40 * tn g) 40)
                rw [show (va_up (va_up σ 14 (upd (σ 14) (tn g) b)) 15 (upd (va_up σ 14 (upd (σ 14) (tn g) b) 15) (tn g) ((n)))) 16 = sQ s from hS.1.2.2.2.2.2] at a9
                exact hp _ ⟨⟨_, _, a9, hS9⟩, b9⟩
              · refine e_aload_n dX12_sheet_62 rfl ?_
                refine e_ldc dX12_sheet_63 w_1294 ?_
                refine c_V1i (nc := 0) (ns := 0) (mc := 0) (ms := 0) (N := mX12_finding) dX12_sheet_65 lv_X12_90 mo_X12_finding hR.cn (Nat.le_of_ble_eq_true rfl) (Nat.le_of_ble_eq_true rfl) (by decide) (s_finding D hR 1 (by decide) (((-1000000001))) fE1) (fun h hP => ?_)
                obtain ⟨hR, hF1⟩ := hP
                have hF := hF.trans hF1
                have hS := hS.er 1
                refine e_top (lowE 1) lE1 ?_
                have e9 : f_sheet s g b n = er 1 (s) := by rw [f_sheet, if_pos hcq4, if_neg (by rw [hcq26]; decide), if_pos (Or.inr (Or.inr hcq26)), if_pos hcq41, if_neg hcq59]
                rw [e9] at hp
                exact e_iret dX12_sheet_68 rfl (hp _ ⟨⟨_, _, hR, hS⟩, hF⟩)
            · refine e_aload_n dX12_sheet_44 rfl ?_
              refine e_ldcw dX12_sheet_45 w_1540 ?_
              refine c_V1i (nc := 0) (ns := 0) (mc := 0) (ms := 0) (N := mX12_finding) dX12_sheet_48 lv_X12_90 mo_X12_finding hR.cn (Nat.le_of_ble_eq_true rfl) (Nat.le_of_ble_eq_true rfl) (by decide) (s_finding D hR 3 (by decide) (((-1000000003))) fE3) (fun h hP => ?_)
              obtain ⟨hR, hF1⟩ := hP
              have hF := hF.trans hF1
              have hS := hS.er 3
              refine e_top (lowE 3) lE3 ?_
              have e9 : f_sheet s g b n = er 3 (s) := by rw [f_sheet, if_pos hcq4, if_neg (by rw [hcq26]; decide), if_pos (Or.inr (Or.inr hcq26)), if_neg hcq41]
              rw [e9] at hp
              exact e_iret dX12_sheet_51 rfl (hp _ ⟨⟨_, _, hR, hS⟩, hF⟩)
          · refine e_aload_n dX12_sheet_29 rfl ?_
            refine e_ldc dX12_sheet_30 w_1294 ?_
            refine c_V1i (nc := 0) (ns := 0) (mc := 0) (ms := 0) (N := mX12_finding) dX12_sheet_32 lv_X12_90 mo_X12_finding hR.cn (Nat.le_of_ble_eq_true rfl) (Nat.le_of_ble_eq_true rfl) (by decide) (s_finding D hR 1 (by decide) (((-1000000001))) fE1) (fun h hP => ?_)
            obtain ⟨hR, hF1⟩ := hP
            have hF := hF.trans hF1
            have hS := hS.er 1
            refine e_top (lowE 1) lE1 ?_
            have e9 : f_sheet s g b n = er 1 (s) := by rw [f_sheet, if_pos hcq4, if_neg hcq8, if_neg (fun zz => by rcases zz with e8 | e8 | e8; exact hcq14 e8; exact hcq20 e8; exact hcq26 e8)]
            rw [e9] at hp
            exact e_iret dX12_sheet_35 rfl (hp _ ⟨⟨_, _, hR, hS⟩, hF⟩)
theorem tn_lt (x : Int32) : tn x < 2 ^ 31 := by
  have h3 := x.toInt_lt
  unfold tn
  show x.toInt.toNat < _
  omega
theorem posN {x : Int32} (h : ¬ x < 0) : x = nI (tn x) := by
  unfold nI tn
  rw [Int32.ofNat_toNatClampNeg _ (Int32.not_lt.mp h)]
theorem lsum {a b z : Nat} (ha : a < 2 ^ 31) (hb : b < 2 ^ 31) (hz : z < 2 ^ 31) : (nI z).toInt64 < (nI a).toInt64 + (nI b).toInt64 ↔ z < a + b := by
  rw [Int64.lt_iff_toInt_lt, Int64.toInt_add, Int32.toInt_toInt64, Int32.toInt_toInt64, Int32.toInt_toInt64, nI_toInt ha, nI_toInt hb, nI_toInt hz]
  rw [Int.bmod_eq_of_le (by omega) (by omega)]
  omega
theorem mvA_get (Q C : Nat → Int32) (b n k : Nat) (hk : k < n) : mvA Q C b n k = Q (b + k) := by
  induction n with
  | zero => omega
  | succ n ih =>
    rw [mvA]
    by_cases e : k = n
    · subst e; rw [pk_us]
    · rw [pk_un e]; exact ih (by omega)
set_option maxRecDepth 20000 in
theorem lp_mvA (D : En) {s : SS} {τ : Nat → Int32} {h00 : AH} (hI : INV s) {post : Option Value → AH → Prop} {σ0 : Nat → Nat → Int32} {C0 : Nat → Int32} (g i e jj n : Int32) (hn_g : g = nI (tn g)) (hn_i : i = nI (tn i)) (hn_e : e = nI (tn e)) (hn_jj : jj = nI (tn jj)) (hn_n : n = nI (tn n)) (hg4 : tn g < 4) (he4 : tn e < 4) (hin : tn i + tn n ≤ 40) (hjn : tn jj + tn n ≤ 40) (hq16 : σ0 16 = sQ s) (kk : ∀ h', RefAt h' (sN s) (va_up σ0 17 (mvA (sQ s) C0 (40 * tn g + tn i) (tn n))) τ → FrR h00 h' → Ev D 2 mX12_move 161 [some (.ref 82), some (.int g), some (.int i), some (.int e), some (.int jj), some (.int n), none] [] h' 0 0 post) : ∀ (j : Nat) (k : Nat) (h : AH) (C : Nat → Int32), (k + j = tn n) → (RefAt h (sN s) (va_up σ0 17 C) τ) → (FrR h00 h) → (C = mvA (sQ s) C0 (40 * tn g + tn i) k) → Ev D 2 mX12_move 127 [some (.ref (82)), some (.int (g)), some (.int (i)), some (.int (e)), some (.int (jj)), some (.int (n)), some (.int (nI (k)))] [] h 0 0 post := by
  intro j
  induction j with
  | zero =>
    intro k h C hm hR hF hC
    refine e_iload dX12_move_127 rfl ?_
    refine e_iload dX12_move_129 rfl ?_
    refine e_top (nI (tn n)) (hn_n) ?_
    refine e_icmp_geN 161 dX12_move_131 (by decide) (by omega) (by omega) (fun hcq131 => ?_) (fun hcq131 => absurd hcq131 (by omega))
    rw [show k = tn n by omega] at hC
    rw [hC] at hR
    exact Ev.drop 6 (kk _ hR hF)
  | succ j ih =>
    intro k h C hm hR hF hC
    refine e_iload dX12_move_127 rfl ?_
    refine e_iload dX12_move_129 rfl ?_
    refine e_top (nI (tn n)) (hn_n) ?_
    refine e_icmp_geN 161 dX12_move_131 (by decide) (by omega) (by omega) (fun hcq131 => absurd hcq131 (by omega)) (fun hcq131 => ?_)
    refine e_aload_n dX12_move_134 rfl ?_
    refine e_get dX12_move_135 fl_X12_72_12 hR.1 rfl ?_
    refine e_iload dX12_move_138 rfl ?_
    refine e_aload_n dX12_move_140 rfl ?_
    refine e_get dX12_move_141 fl_X12_69_12 hR.1 rfl ?_
    refine e_bipush (nI (40)) dX12_move_144 (by decide) ?_
    refine e_iload_n dX12_move_146 rfl ?_
    refine e_top (nI (tn g)) (hn_g) ?_
    refine e_imulN dX12_move_147 ?_
    refine e_iload_n dX12_move_148 rfl ?_
    refine e_top (nI (tn i)) (hn_i) ?_
    refine e_iaddN dX12_move_149 ?_
    refine e_iload dX12_move_150 rfl ?_
    refine e_iaddN dX12_move_152 ?_
    refine e_ild (((40 * (tn g)) + (tn i)) + k) ((sQ s (((40 * (tn g)) + (tn i)) + k))) dX12_move_153 (hR.2.2.1 16 (by decide) (by decide) (by decide)) rfl (by show _ < 160; omega) (by decide) (show σ0 16 _ = _ by rw [hq16]) ?_
    refine r_st 17 (k) dX12_move_154 hR hF rfl (by decide) rfl (by show _ < 40; omega) (fun h hR hF => ?_)
    rw [va_upUp, va_upS] at hR
    refine e_iincN (k + 1) dX12_move_155 rfl (by decide) (nI_add _ _) ?_
    refine e_goto 127 dX12_move_158 (by decide) ?_
    exact ih (k + 1) h _ (by omega) hR hF (by rw [mvA, ← hC])
set_option maxRecDepth 20000 in
theorem lp_mvB (D : En) {s : SS} {τ : Nat → Int32} {h00 : AH} (hI : INV s) {post : Option Value → AH → Prop} {σ1 : Nat → Nat → Int32} (g i e jj n : Int32) (hn_g : g = nI (tn g)) (hn_i : i = nI (tn i)) (hn_e : e = nI (tn e)) (hn_jj : jj = nI (tn jj)) (hn_n : n = nI (tn n)) (hg4 : tn g < 4) (he4 : tn e < 4) (hin : tn i + tn n ≤ 40) (hjn : tn jj + tn n ≤ 40) (hq17 : ∀ k, k < tn n → σ1 17 k = sQ s (40 * tn g + tn i + k)) (hp : ∀ h', RefAt h' (sN s) (va_up σ1 16 (mvB (sQ s) (40 * tn g + tn i) (40 * tn e + tn jj) (tn n))) τ → FrR h00 h' → post (some (.int n)) h') : ∀ (j : Nat) (k : Nat) (h : AH) (Q : Nat → Int32), (k + j = tn n) → (RefAt h (sN s) (va_up σ1 16 Q) τ) → (FrR h00 h) → (Q = mvB (sQ s) (40 * tn g + tn i) (40 * tn e + tn jj) k) → Ev D 2 mX12_move 164 [some (.ref (82)), some (.int (g)), some (.int (i)), some (.int (e)), some (.int (jj)), some (.int (n)), some (.int (nI (k)))] [] h 0 0 post := by
  intro j
  induction j with
  | zero =>
    intro k h Q hm hR hF hQ
    refine e_iload dX12_move_164 rfl ?_
    refine e_iload dX12_move_166 rfl ?_
    refine e_top (nI (tn n)) (hn_n) ?_
    refine e_icmp_geN 199 dX12_move_168 (by decide) (by omega) (by omega) (fun hcq168 => ?_) (fun hcq168 => absurd hcq168 (by omega))
    refine e_iload dX12_move_199 rfl ?_
    rw [show k = tn n by omega] at hQ
    rw [hQ] at hR
    exact e_iret dX12_move_201 rfl (hp _ hR hF)
  | succ j ih =>
    intro k h Q hm hR hF hQ
    refine e_iload dX12_move_164 rfl ?_
    refine e_iload dX12_move_166 rfl ?_
    refine e_top (nI (tn n)) (hn_n) ?_
    refine e_icmp_geN 199 dX12_move_168 (by decide) (by omega) (by omega) (fun hcq168 => absurd hcq168 (by omega)) (fun hcq168 => ?_)
    refine e_aload_n dX12_move_171 rfl ?_
    refine e_get dX12_move_172 fl_X12_69_12 hR.1 rfl ?_
    refine e_bipush (nI (40)) dX12_move_175 (by decide) ?_
    refine e_iload_n dX12_move_177 rfl ?_
    refine e_top (nI (tn e)) (hn_e) ?_
    refine e_imulN dX12_move_178 ?_
    refine e_iload dX12_move_179 rfl ?_
    refine e_top (nI (tn jj)) (hn_jj) ?_
    refine e_iaddN dX12_move_181 ?_
    refine e_iload dX12_move_182 rfl ?_
    refine e_iaddN dX12_move_184 ?_
    refine e_aload_n dX12_move_185 rfl ?_
    refine e_get dX12_move_186 fl_X12_72_12 hR.1 rfl ?_
    refine e_iload dX12_move_189 rfl ?_
    refine e_ild (k) ((sQ s (40 * tn g + tn i + k))) dX12_move_191 (hR.2.2.1 17 (by decide) (by decide) (by decide)) rfl (by show _ < 40; omega) (by decide) (show σ1 17 _ = _ from hq17 _ (by omega)) ?_
    refine r_st 16 (((40 * (tn e)) + (tn jj)) + k) dX12_move_192 hR hF rfl (by decide) rfl (by show _ < 160; omega) (fun h hR hF => ?_)
    rw [va_upUp, va_upS] at hR
    refine e_iincN (k + 1) dX12_move_193 rfl (by decide) (nI_add _ _) ?_
    refine e_goto 164 dX12_move_196 (by decide) ?_
    exact ih (k + 1) h _ (by omega) hR hF (by rw [mvB, ← hQ])
theorem RS.m {σ : Nat → Nat → Int32} {τ : Nat → Int32} {s : SS} (hS : RS σ τ s) (C Q : Nat → Int32) : RS (va_up (va_up σ 17 C) 16 Q) τ (wH s (sW s) (sZ s) Q) := by
  obtain ⟨⟨a1, a2, a3, a4, a5, a6⟩, b', c⟩ := hS
  exact ⟨⟨a1, a2, a3, a4, a5, rfl⟩, b', c⟩
set_option maxRecDepth 20000 in
theorem rp_move (D : En) {h : AH} {s : SS} (hI : INV s) (hRS : RefS h s) (g : Int32) (i : Int32) (e : Int32) (jj : Int32) (n : Int32) : Sp D 2 mX12_move [.ref (82), .int (g), .int (i), .int (e), .int (jj), .int (n)] h 0 0 (some (.int (f_move s g i e jj n).1)) (fun h' => RefS h' (f_move s g i e jj n).2 ∧ FrR h h') := by
  obtain ⟨σ, τ, hR, hS⟩ := hRS
  have hY := hI.1.1
  have hnv := hY.2.1
  have htc10 := hY.2.2.2.1
  obtain ⟨h00, hh00⟩ : ∃ z, z = h := ⟨_, rfl⟩
  have hF : FrR h00 h := by rw [hh00]; exact FrR.rf
  intro post hp
  rw [← hh00] at hp
  show Ev D 2 mX12_move 0 [some (.ref (82)), some (.int (g)), some (.int (i)), some (.int (e)), some (.int (jj)), some (.int (n)), none] [] h 0 0 post
  refine e_iload_n dX12_move_0 rfl ?_
  refine c_S1iR (N := mX12_isSheet) dX12_move_1 ls_X12_116 mo_X12_isSheet  (Nat.le_of_ble_eq_true rfl) (Nat.le_of_ble_eq_true rfl) (by decide) (s_isSheet D ((g))) ?_
  refine e_if_eqB 14 dX12_move_4 (by decide) (fun hcq4 => ?_) (fun hcq4 => ?_)
  · refine e_aload_n dX12_move_14 rfl ?_
    refine e_ldc dX12_move_15 w_1294 ?_
    refine c_V1i (nc := 0) (ns := 0) (mc := 0) (ms := 0) (N := mX12_finding) dX12_move_17 lv_X12_90 mo_X12_finding hR.cn (Nat.le_of_ble_eq_true rfl) (Nat.le_of_ble_eq_true rfl) (by decide) (s_finding D hR 1 (by decide) (((-1000000001))) fE1) (fun h hP => ?_)
    obtain ⟨hR, hF1⟩ := hP
    have hF := hF.trans hF1
    have hS := hS.er 1
    refine e_top (lowE 1) lE1 ?_
    have e9 : f_move s g i e jj n = er 1 (s) := by rw [f_move, if_neg hcq4]
    rw [e9] at hp
    exact e_iret dX12_move_20 rfl (hp _ ⟨⟨_, _, hR, hS⟩, hF⟩)
  · obtain ⟨hn_g, hg_g, hl_g⟩ := wiN hcq4 (by decide) (by decide)
    refine e_iload_n dX12_move_7 rfl ?_
    refine c_S1iR (N := mX12_isSheet) dX12_move_8 ls_X12_116 mo_X12_isSheet  (Nat.le_of_ble_eq_true rfl) (Nat.le_of_ble_eq_true rfl) (by decide) (s_isSheet D ((e))) ?_
    refine e_if_neB 21 dX12_move_11 (by decide) (fun hcq11 => ?_) (fun hcq11 => ?_)
    · obtain ⟨hn_e, hg_e, hl_e⟩ := wiN hcq11 (by decide) (by decide)
      refine e_aload_n dX12_move_21 rfl ?_
      refine e_get dX12_move_22 fl_X12_63_12 hR.1 rfl ?_
      refine e_iload_n dX12_move_25 rfl ?_
      refine e_top (nI (tn g)) (hn_g) ?_
      refine e_ild (tn g) ((sW s (tn g))) dX12_move_26 (hR.2.2.1 14 (by decide) (by decide) (by decide)) rfl (by show _ < 4; omega) (by decide) (by rw [hS.1.2.2.2.1]) ?_
      refine e_if_eq 39 dX12_move_27 (by decide) (fun hcq27 => ?_) (fun hcq27 => ?_)
      · refine e_aload_n dX12_move_39 rfl ?_
        refine e_ldc dX12_move_40 w_1340 ?_
        refine c_V1i (nc := 0) (ns := 0) (mc := 0) (ms := 0) (N := mX12_finding) dX12_move_42 lv_X12_90 mo_X12_finding hR.cn (Nat.le_of_ble_eq_true rfl) (Nat.le_of_ble_eq_true rfl) (by decide) (s_finding D hR 2 (by decide) (((-1000000002))) fE2) (fun h hP => ?_)
        obtain ⟨hR, hF1⟩ := hP
        have hF := hF.trans hF1
        have hS := hS.er 2
        refine e_top (lowE 2) lE2 ?_
        have e9 : f_move s g i e jj n = er 2 (s) := by rw [f_move, if_pos hcq4, if_pos hcq11, if_pos hcq27]
        rw [e9] at hp
        exact e_iret dX12_move_45 rfl (hp _ ⟨⟨_, _, hR, hS⟩, hF⟩)
      · refine e_aload_n dX12_move_30 rfl ?_
        refine e_get dX12_move_31 fl_X12_63_12 hR.1 rfl ?_
        refine e_iload_n dX12_move_34 rfl ?_
        refine e_top (nI (tn e)) (hn_e) ?_
        refine e_ild (tn e) ((sW s (tn e))) dX12_move_35 (hR.2.2.1 14 (by decide) (by decide) (by decide)) rfl (by show _ < 4; omega) (by decide) (by rw [hS.1.2.2.2.1]) ?_
        refine e_if_ne 46 dX12_move_36 (by decide) (fun hcq36 => ?_) (fun hcq36 => ?_)
        · have hz9 := (hI.2.2 _ (show tn g < 4 by omega)).2
          have hz8 := (hI.2.2 _ (show tn e < 4 by omega)).2
          refine e_aload_n dX12_move_46 rfl ?_
          refine e_get dX12_move_47 fl_X12_63_12 hR.1 rfl ?_
          refine e_iload_n dX12_move_50 rfl ?_
          refine e_top (nI (tn g)) (hn_g) ?_
          refine e_ild (tn g) ((sW s (tn g))) dX12_move_51 (hR.2.2.1 14 (by decide) (by decide) (by decide)) rfl (by show _ < 4; omega) (by decide) (by rw [hS.1.2.2.2.1]) ?_
          refine e_aload_n dX12_move_52 rfl ?_
          refine e_get dX12_move_53 fl_X12_63_12 hR.1 rfl ?_
          refine e_iload_n dX12_move_56 rfl ?_
          refine e_top (nI (tn e)) (hn_e) ?_
          refine e_ild (tn e) ((sW s (tn e))) dX12_move_57 (hR.2.2.1 14 (by decide) (by decide) (by decide)) rfl (by show _ < 4; omega) (by decide) (by rw [hS.1.2.2.2.1]) ?_
          refine e_icmp_eq 68 dX12_move_58 (by decide) (fun hcq58 => ?_) (fun hcq58 => ?_)
          · refine e_iload dX12_move_68 rfl ?_
            refine e_if_lt 117 dX12_move_70 (by decide) (fun hcq70 => ?_) (fun hcq70 => ?_)
            · refine e_aload_n dX12_move_117 rfl ?_
              refine e_ldc dX12_move_118 w_1294 ?_
              refine c_V1i (nc := 0) (ns := 0) (mc := 0) (ms := 0) (N := mX12_finding) dX12_move_120 lv_X12_90 mo_X12_finding hR.cn (Nat.le_of_ble_eq_true rfl) (Nat.le_of_ble_eq_true rfl) (by decide) (s_finding D hR 1 (by decide) (((-1000000001))) fE1) (fun h hP => ?_)
              obtain ⟨hR, hF1⟩ := hP
              have hF := hF.trans hF1
              have hS := hS.er 1
              refine e_top (lowE 1) lE1 ?_
              have e9 : f_move s g i e jj n = er 1 (s) := by rw [f_move, if_pos hcq4, if_pos hcq11, if_neg hcq27, if_neg hcq36, if_pos hcq58, if_pos hcq70]
              rw [e9] at hp
              exact e_iret dX12_move_123 rfl (hp _ ⟨⟨_, _, hR, hS⟩, hF⟩)
            · have hn_n := posN hcq70
              have ht_n := tn_lt n
              refine e_iload_n dX12_move_73 rfl ?_
              refine e_if_lt 117 dX12_move_74 (by decide) (fun hcq74 => ?_) (fun hcq74 => ?_)
              · refine e_aload_n dX12_move_117 rfl ?_
                refine e_ldc dX12_move_118 w_1294 ?_
                refine c_V1i (nc := 0) (ns := 0) (mc := 0) (ms := 0) (N := mX12_finding) dX12_move_120 lv_X12_90 mo_X12_finding hR.cn (Nat.le_of_ble_eq_true rfl) (Nat.le_of_ble_eq_true rfl) (by decide) (s_finding D hR 1 (by decide) (((-1000000001))) fE1) (fun h hP => ?_)
                obtain ⟨hR, hF1⟩ := hP
                have hF := hF.trans hF1
                have hS := hS.er 1
                refine e_top (lowE 1) lE1 ?_
                have e9 : f_move s g i e jj n = er 1 (s) := by rw [f_move, if_pos hcq4, if_pos hcq11, if_neg hcq27, if_neg hcq36, if_pos hcq58, if_neg hcq70, if_pos hcq74]
                rw [e9] at hp
                exact e_iret dX12_move_123 rfl (hp _ ⟨⟨_, _, hR, hS⟩, hF⟩)
              · have hn_i := posN hcq74
                have ht_i := tn_lt i
                refine e_iload dX12_move_77 rfl ?_
                refine e_if_lt 117 dX12_move_79 (by decide) (fun hcq79 => ?_) (fun hcq79 => ?_)
                · refine e_aload_n dX12_move_117 rfl ?_
                  refine e_ldc dX12_move_118 w_1294 ?_
                  refine c_V1i (nc := 0) (ns := 0) (mc := 0) (ms := 0) (N := mX12_finding) dX12_move_120 lv_X12_90 mo_X12_finding hR.cn (Nat.le_of_ble_eq_true rfl) (Nat.le_of_ble_eq_true rfl) (by decide) (s_finding D hR 1 (by decide) (((-1000000001))) fE1) (fun h hP => ?_)
                  obtain ⟨hR, hF1⟩ := hP
                  have hF := hF.trans hF1
                  have hS := hS.er 1
                  refine e_top (lowE 1) lE1 ?_
                  have e9 : f_move s g i e jj n = er 1 (s) := by rw [f_move, if_pos hcq4, if_pos hcq11, if_neg hcq27, if_neg hcq36, if_pos hcq58, if_neg hcq70, if_neg hcq74, if_pos hcq79]
                  rw [e9] at hp
                  exact e_iret dX12_move_123 rfl (hp _ ⟨⟨_, _, hR, hS⟩, hF⟩)
                · have hn_jj := posN hcq79
                  have ht_jj := tn_lt jj
                  refine e_iload_n dX12_move_82 rfl ?_
                  refine e_top (nI (tn i)) (hn_i) ?_
                  refine e_i2l dX12_move_83 ?_
                  refine e_iload dX12_move_84 rfl ?_
                  refine e_top (nI (tn n)) (hn_n) ?_
                  refine e_i2l dX12_move_86 ?_
                  refine e_ladd dX12_move_87 ?_
                  refine e_aload_n dX12_move_88 rfl ?_
                  refine e_get dX12_move_89 fl_X12_66_12 hR.1 rfl ?_
                  refine e_iload_n dX12_move_92 rfl ?_
                  refine e_top (nI (tn g)) (hn_g) ?_
                  refine e_ild (tn g) (nI (tn (sZ s (tn g)))) dX12_move_93 (hR.2.2.1 15 (by decide) (by decide) (by decide)) rfl (by show _ < 4; omega) (by decide) (by rw [hS.1.2.2.2.2.1]; exact (hI.2.2 _ (by omega)).1) ?_
                  refine e_i2l dX12_move_94 ?_
                  refine e_lcmp dX12_move_95 ?_
                  refine e_if_gt 117 dX12_move_96 (by decide) (fun hcq96 => ?_) (fun hcq96 => ?_)
                  · refine e_aload_n dX12_move_117 rfl ?_
                    refine e_ldc dX12_move_118 w_1294 ?_
                    refine c_V1i (nc := 0) (ns := 0) (mc := 0) (ms := 0) (N := mX12_finding) dX12_move_120 lv_X12_90 mo_X12_finding hR.cn (Nat.le_of_ble_eq_true rfl) (Nat.le_of_ble_eq_true rfl) (by decide) (s_finding D hR 1 (by decide) (((-1000000001))) fE1) (fun h hP => ?_)
                    obtain ⟨hR, hF1⟩ := hP
                    have hF := hF.trans hF1
                    have hS := hS.er 1
                    refine e_top (lowE 1) lE1 ?_
                    have e9 : f_move s g i e jj n = er 1 (s) := by rw [f_move, if_pos hcq4, if_pos hcq11, if_neg hcq27, if_neg hcq36, if_pos hcq58, if_neg hcq70, if_neg hcq74, if_neg hcq79, if_neg (Nat.not_le.mpr ((lsum (a := tn i) (b := tn n) (z := tn (sZ s (tn g))) (by omega) (by omega) (by omega)).mp ((lg_cmp_gt _ _).mp hcq96)))]
                    rw [e9] at hp
                    exact e_iret dX12_move_123 rfl (hp _ ⟨⟨_, _, hR, hS⟩, hF⟩)
                  · refine e_iload dX12_move_99 rfl ?_
                    refine e_top (nI (tn jj)) (hn_jj) ?_
                    refine e_i2l dX12_move_101 ?_
                    refine e_iload dX12_move_102 rfl ?_
                    refine e_top (nI (tn n)) (hn_n) ?_
                    refine e_i2l dX12_move_104 ?_
                    refine e_ladd dX12_move_105 ?_
                    refine e_aload_n dX12_move_106 rfl ?_
                    refine e_get dX12_move_107 fl_X12_66_12 hR.1 rfl ?_
                    refine e_iload_n dX12_move_110 rfl ?_
                    refine e_top (nI (tn e)) (hn_e) ?_
                    refine e_ild (tn e) (nI (tn (sZ s (tn e)))) dX12_move_111 (hR.2.2.1 15 (by decide) (by decide) (by decide)) rfl (by show _ < 4; omega) (by decide) (by rw [hS.1.2.2.2.2.1]; exact (hI.2.2 _ (by omega)).1) ?_
                    refine e_i2l dX12_move_112 ?_
                    refine e_lcmp dX12_move_113 ?_
                    refine e_if_le 124 dX12_move_114 (by decide) (fun hcq114 => ?_) (fun hcq114 => ?_)
                    · have hz1 : tn i + tn n ≤ tn (sZ s (tn g)) := Nat.not_lt.mp (fun z9 => hcq96 ((lg_cmp_gt _ _).mpr ((lsum (a := tn i) (b := tn n) (z := tn (sZ s (tn g))) (by omega) (by omega) (by omega)).mpr z9)))
                      have hz2 : tn jj + tn n ≤ tn (sZ s (tn e)) := Nat.not_lt.mp (fun z9 => absurd ((lsum (a := tn jj) (b := tn n) (z := tn (sZ s (tn e))) (by omega) (by omega) (by omega)).mpr z9) (Int64.not_lt.mpr ((lg_cmp_le _ _).mp hcq114)))
                      refine e_iconst (nI (0)) dX12_move_124 (by decide) ?_
                      refine e_istore dX12_move_125 (by decide) ?_
                      refine lp_mvA D hI (h00 := h00) (C0 := σ 17) g i e jj n hn_g hn_i hn_e hn_jj hn_n (by omega) (by omega) (by omega) (by omega) hS.1.2.2.2.2.2 (fun h hR hF => ?_) (tn n) 0 h (σ 17) (by omega) (by rw [upSelf]; exact hR) hF rfl
                      refine e_iconst (nI (0)) dX12_move_161 (by decide) ?_
                      refine e_istore dX12_move_162 (by decide) ?_
                      refine lp_mvB D hI (h00 := h00) (σ1 := va_up σ 17 (mvA (sQ s) (σ 17) (40 * tn g + tn i) (tn n))) g i e jj n hn_g hn_i hn_e hn_jj hn_n (by omega) (by omega) (by omega) (by omega) (fun k hk => by rw [va_upS]; exact mvA_get _ _ _ _ _ hk) (fun h9 a9 b9 => ?_) (tn n) 0 h (va_up σ 17 (mvA (sQ s) (σ 17) (40 * tn g + tn i) (tn n)) 16) (by omega) (by rw [upSelf]; exact hR) hF hS.1.2.2.2.2.2
                      have e9 : f_move s g i e jj n = (n, wH s (sW s) (sZ s) (mvB (sQ s) (40 * tn g + tn i) (40 * tn e + tn jj) (tn n))) := by rw [f_move, if_pos hcq4, if_pos hcq11, if_neg hcq27, if_neg hcq36, if_pos hcq58, if_neg hcq70, if_neg hcq74, if_neg hcq79, if_pos (Nat.not_lt.mp (fun z9 => hcq96 ((lg_cmp_gt _ _).mpr ((lsum (a := tn i) (b := tn n) (z := tn (sZ s (tn g))) (by omega) (by omega) (by omega)).mpr z9)))), if_pos (Nat.not_lt.mp (fun z9 => absurd ((lsum (a := tn jj) (b := tn n) (z := tn (sZ s (tn e))) (by omega) (by omega) (by omega)).mpr z9) (Int64.not_lt.mpr ((lg_cmp_le _ _).mp hcq114))))]
                      rw [e9] at hp
                      exact hp _ ⟨⟨_, _, a9, hS.m _ _⟩, b9⟩
                    · refine e_aload_n dX12_move_117 rfl ?_
                      refine e_ldc dX12_move_118 w_1294 ?_
                      refine c_V1i (nc := 0) (ns := 0) (mc := 0) (ms := 0) (N := mX12_finding) dX12_move_120 lv_X12_90 mo_X12_finding hR.cn (Nat.le_of_ble_eq_true rfl) (Nat.le_of_ble_eq_true rfl) (by decide) (s_finding D hR 1 (by decide) (((-1000000001))) fE1) (fun h hP => ?_)
                      obtain ⟨hR, hF1⟩ := hP
                      have hF := hF.trans hF1
                      have hS := hS.er 1
                      refine e_top (lowE 1) lE1 ?_
                      have e9 : f_move s g i e jj n = er 1 (s) := by rw [f_move, if_pos hcq4, if_pos hcq11, if_neg hcq27, if_neg hcq36, if_pos hcq58, if_neg hcq70, if_neg hcq74, if_neg hcq79, if_pos (Nat.not_lt.mp (fun z9 => hcq96 ((lg_cmp_gt _ _).mpr ((lsum (a := tn i) (b := tn n) (z := tn (sZ s (tn g))) (by omega) (by omega) (by omega)).mpr z9)))), if_neg (Nat.not_le.mpr ((lsum (a := tn jj) (b := tn n) (z := tn (sZ s (tn e))) (by omega) (by omega) (by omega)).mp (Int64.not_le.mp (fun z9 => hcq114 ((lg_cmp_le _ _).mpr z9)))))]
                      rw [e9] at hp
                      exact e_iret dX12_move_123 rfl (hp _ ⟨⟨_, _, hR, hS⟩, hF⟩)
          · refine e_aload_n dX12_move_61 rfl ?_
            refine e_ldc dX12_move_62 w_1410 ?_
            refine c_V1i (nc := 0) (ns := 0) (mc := 0) (ms := 0) (N := mX12_finding) dX12_move_64 lv_X12_90 mo_X12_finding hR.cn (Nat.le_of_ble_eq_true rfl) (Nat.le_of_ble_eq_true rfl) (by decide) (s_finding D hR 5 (by decide) (((-1000000005))) fE5) (fun h hP => ?_)
            obtain ⟨hR, hF1⟩ := hP
            have hF := hF.trans hF1
            have hS := hS.er 5
            refine e_top (lowE 5) lE5 ?_
            have e9 : f_move s g i e jj n = er 5 (s) := by rw [f_move, if_pos hcq4, if_pos hcq11, if_neg hcq27, if_neg hcq36, if_neg hcq58]
            rw [e9] at hp
            exact e_iret dX12_move_67 rfl (hp _ ⟨⟨_, _, hR, hS⟩, hF⟩)
        · refine e_aload_n dX12_move_39 rfl ?_
          refine e_ldc dX12_move_40 w_1340 ?_
          refine c_V1i (nc := 0) (ns := 0) (mc := 0) (ms := 0) (N := mX12_finding) dX12_move_42 lv_X12_90 mo_X12_finding hR.cn (Nat.le_of_ble_eq_true rfl) (Nat.le_of_ble_eq_true rfl) (by decide) (s_finding D hR 2 (by decide) (((-1000000002))) fE2) (fun h hP => ?_)
          obtain ⟨hR, hF1⟩ := hP
          have hF := hF.trans hF1
          have hS := hS.er 2
          refine e_top (lowE 2) lE2 ?_
          have e9 : f_move s g i e jj n = er 2 (s) := by rw [f_move, if_pos hcq4, if_pos hcq11, if_neg hcq27, if_pos hcq36]
          rw [e9] at hp
          exact e_iret dX12_move_45 rfl (hp _ ⟨⟨_, _, hR, hS⟩, hF⟩)
    · refine e_aload_n dX12_move_14 rfl ?_
      refine e_ldc dX12_move_15 w_1294 ?_
      refine c_V1i (nc := 0) (ns := 0) (mc := 0) (ms := 0) (N := mX12_finding) dX12_move_17 lv_X12_90 mo_X12_finding hR.cn (Nat.le_of_ble_eq_true rfl) (Nat.le_of_ble_eq_true rfl) (by decide) (s_finding D hR 1 (by decide) (((-1000000001))) fE1) (fun h hP => ?_)
      obtain ⟨hR, hF1⟩ := hP
      have hF := hF.trans hF1
      have hS := hS.er 1
      refine e_top (lowE 1) lE1 ?_
      have e9 : f_move s g i e jj n = er 1 (s) := by rw [f_move, if_pos hcq4, if_neg hcq11]
      rw [e9] at hp
      exact e_iret dX12_move_20 rfl (hp _ ⟨⟨_, _, hR, hS⟩, hF⟩)
