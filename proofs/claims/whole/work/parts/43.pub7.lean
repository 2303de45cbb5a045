theorem kpC_6 (N : Nat → Int32) (t : Nat) : (kpC N t).2 ≤ 6 := by
  induction t with
  | zero => exact Nat.zero_le _
  | succ t ih =>
    rw [kpC]
    split
    · rename_i z; exact z.2
    · exact ih
theorem or_nI {a b : Nat} (ha : a < 2 ^ 31) (hb : b < 2 ^ 31) : nI a ||| nI b = nI (a ||| b) := by
  have hab : a ||| b < 2 ^ 31 := Nat.or_lt_two_pow ha hb
  apply Int32.toBitVec_inj.mp
  apply BitVec.eq_of_toNat_eq
  rw [Int32.toBitVec_or, BitVec.toNat_or, pk_tn (by omega), pk_tn (by omega), pk_tn (by omega)]
theorem shl_nI : ∀ t, t < 10 → nI 1 <<< (nI t &&& 31) = nI (2 ^ t) := by decide
theorem kpC_n (N : Nat → Int32) (t : Nat) (ht : t ≤ 10) : ∃ a, (kpC N t).1 = nI a ∧ a < 2 ^ t := by
  induction t with
  | zero => exact ⟨0, rfl, by decide⟩
  | succ t ih =>
    obtain ⟨a, h1, h2⟩ := ih (by omega)
    have hp1 : 2 ^ (t + 1) = 2 * 2 ^ t := by rw [Nat.pow_succ]; omega
    have hp2 : 2 ^ t ≤ 2 ^ 9 := Nat.pow_le_pow_right (by decide) (by omega)
    rw [kpC]
    split
    · refine ⟨a ||| 2 ^ t, ?_, ?_⟩
      · show (kpC N t).1 ||| _ = _
        rw [h1, shl_nI t (by omega), or_nI (by omega) (by omega)]
      · exact Nat.or_lt_two_pow (by omega) (by omega)
    · refine ⟨a, ?_, by omega⟩
      show (kpC N t).1 ||| _ = _
      rw [h1, or_nI (by omega) (by omega), Nat.or_zero]
theorem kpO_YW {N : Nat → Int32} {nv tc : Nat} {tx : Nat → List Nat} (hY : YW N nv tc tx) (ch e : Int32) (t : Nat) (ht : t ≤ 10) : YW (kpO N ch e t) nv tc tx := by
  induction t with
  | zero => exact hY
  | succ t ih => rw [kpO]; exact YW_upd (ih (by omega)) (by unfold FI; omega)
set_option maxRecDepth 20000 in
theorem lp_kpC (D : En) {s : SS} {τ : Nat → Int32} {h00 : AH} (hI : INV s) {post : Option Value → AH → Prop} {h : AH} {σ : Nat → Nat → Int32} (hR : RefAt h (sN s) σ τ) (c n w : Int32) (kk : Ev D 9 mX12_keep 127 [some (.ref 82), some (.int c), some (.int n), some (.int w), some (.int (kpC (sN s) (tcN (sN s))).1), none, none, none, none, none, none, none] [] h 0 0 post) : ∀ (j : Nat) (t : Nat) (q : Int32 × Nat), (t + j = tcN (sN s)) → (q = kpC (sN s) t) → Ev D 9 mX12_keep 54 [some (.ref (82)), some (.int (c)), some (.int (n)), some (.int (w)), some (.int (q.1)), some (.int (nI (q.2))), some (.int (nI (t))), none, none, none, none, none] [] h 0 0 post := by
  intro j
  induction j with
  | zero =>
    intro t q hm hq
    have hY := hI.1.1
    have hnv := hY.2.1
    have htc10 := hY.2.2.2.1
    have hc6 := kpC_6 (sN s) t
    rw [← hq] at hc6
    refine e_iload dX12_keep_54 rfl ?_
    refine e_aload_n dX12_keep_56 rfl ?_
    refine e_get dX12_keep_57 fl_X12_9_12 hR.1 rfl ?_
    refine e_iconst (nI (2)) dX12_keep_60 (by decide) ?_
    refine e_ild (2) (nI (tcN (sN s))) dX12_keep_61 hR.2.1 rfl (by omega) (by decide) hY.2.2.1 ?_
    refine e_icmp_geN 127 dX12_keep_62 (by decide) (by omega) (by omega) (fun hcq62 => ?_) (fun hcq62 => absurd hcq62 (by omega))
    rw [show t = tcN (sN s) by omega] at hq
    rw [hq]
    exact Ev.drop 5 (Ev.drop 6 kk)
  | succ j ih =>
    intro t q hm hq
    have hY := hI.1.1
    have hnv := hY.2.1
    have htc10 := hY.2.2.2.1
    have hc6 := kpC_6 (sN s) t
    rw [← hq] at hc6
    refine e_iload dX12_keep_54 rfl ?_
    refine e_aload_n dX12_keep_56 rfl ?_
    refine e_get dX12_keep_57 fl_X12_9_12 hR.1 rfl ?_
    refine e_iconst (nI (2)) dX12_keep_60 (by decide) ?_
    refine e_ild (2) (nI (tcN (sN s))) dX12_keep_61 hR.2.1 rfl (by omega) (by decide) hY.2.2.1 ?_
    refine e_icmp_geN 127 dX12_keep_62 (by decide) (by omega) (by omega) (fun hcq62 => absurd hcq62 (by omega)) (fun hcq62 => ?_)
    refine e_aload_n dX12_keep_65 rfl ?_
    refine e_iload dX12_keep_66 rfl ?_
    refine c_V1iR (N := mX12_isOpen) dX12_keep_68 lv_X12_158 mo_X12_isOpen hR.cn (Nat.le_of_ble_eq_true rfl) (Nat.le_of_ble_eq_true rfl) (by decide) (s_isOpen D hR (t) (by omega)) ?_
    refine e_if_eqB 85 dX12_keep_71 (by decide) (fun hcq71 => ?_) (fun hcq71 => ?_)
    · refine e_iconst (nI (0)) dX12_keep_85 (by decide) ?_
      refine e_istore dX12_keep_86 (by decide) ?_
      refine e_iload dX12_keep_88 rfl ?_
      refine e_iload dX12_keep_90 rfl ?_
      refine e_if_eqN 102 dX12_keep_92 (by decide) (by omega) (fun hcq92 => ?_) (fun hcq92 => absurd hcq92 (by decide))
      refine e_iconst (nI (0)) dX12_keep_102 (by decide) ?_
      refine e_ior dX12_keep_103 ?_
      refine e_istore dX12_keep_104 (by decide) ?_
      refine e_iload dX12_keep_106 rfl ?_
      refine e_iload dX12_keep_108 rfl ?_
      refine e_if_eqN 117 dX12_keep_110 (by decide) (by omega) (fun hcq110 => ?_) (fun hcq110 => absurd hcq110 (by decide))
      refine e_iconst (nI (0)) dX12_keep_117 (by decide) ?_
      refine e_iaddN dX12_keep_118 ?_
      refine e_istore dX12_keep_119 (by decide) ?_
      refine e_iincN (t + 1) dX12_keep_121 rfl (by decide) (nI_add _ _) ?_
      refine e_goto 54 dX12_keep_124 (by decide) ?_
      refine Ev.drop 7 ?_
      exact ih (t + 1) (q.1 ||| nI 0, q.2) (by omega) (by rw [kpC, ← hq, if_neg (fun zz => by first | exact absurd zz.1 (by assumption) | exact absurd zz.2 (by omega))])
    · refine e_iload dX12_keep_74 rfl ?_
      refine e_bipush (nI (6)) dX12_keep_76 (by decide) ?_
      refine e_icmp_geN 85 dX12_keep_78 (by decide) (by omega) (by omega) (fun hcq78 => ?_) (fun hcq78 => ?_)
      · refine e_iconst (nI (0)) dX12_keep_85 (by decide) ?_
        refine e_istore dX12_keep_86 (by decide) ?_
        refine e_iload dX12_keep_88 rfl ?_
        refine e_iload dX12_keep_90 rfl ?_
        refine e_if_eqN 102 dX12_keep_92 (by decide) (by omega) (fun hcq92 => ?_) (fun hcq92 => absurd hcq92 (by decide))
        refine e_iconst (nI (0)) dX12_keep_102 (by decide) ?_
        refine e_ior dX12_keep_103 ?_
        refine e_istore dX12_keep_104 (by decide) ?_
        refine e_iload dX12_keep_106 rfl ?_
        refine e_iload dX12_keep_108 rfl ?_
        refine e_if_eqN 117 dX12_keep_110 (by decide) (by omega) (fun hcq110 => ?_) (fun hcq110 => absurd hcq110 (by decide))
        refine e_iconst (nI (0)) dX12_keep_117 (by decide) ?_
        refine e_iaddN dX12_keep_118 ?_
        refine e_istore dX12_keep_119 (by decide) ?_
        refine e_iincN (t + 1) dX12_keep_121 rfl (by decide) (nI_add _ _) ?_
        refine e_goto 54 dX12_keep_124 (by decide) ?_
        refine Ev.drop 7 ?_
        exact ih (t + 1) (q.1 ||| nI 0, q.2) (by omega) (by rw [kpC, ← hq, if_neg (fun zz => by first | exact absurd zz.1 (by assumption) | exact absurd zz.2 (by omega))])
      · refine e_iconst (nI (1)) dX12_keep_81 (by decide) ?_
        refine e_goto 86 dX12_keep_82 (by decide) ?_
        refine e_istore dX12_keep_86 (by decide) ?_
        refine e_iload dX12_keep_88 rfl ?_
        refine e_iload dX12_keep_90 rfl ?_
        refine e_if_eqN 102 dX12_keep_92 (by decide) (by omega) (fun hcq92 => absurd hcq92 (by decide)) (fun hcq92 => ?_)
        refine e_iconst (nI (1)) dX12_keep_95 (by decide) ?_
        refine e_iload dX12_keep_96 rfl ?_
        refine e_ishl dX12_keep_98 ?_
        refine e_goto 103 dX12_keep_99 (by decide) ?_
        refine e_ior dX12_keep_103 ?_
        refine e_istore dX12_keep_104 (by decide) ?_
        refine e_iload dX12_keep_106 rfl ?_
        refine e_iload dX12_keep_108 rfl ?_
        refine e_if_eqN 117 dX12_keep_110 (by decide) (by omega) (fun hcq110 => absurd hcq110 (by decide)) (fun hcq110 => ?_)
        refine e_iconst (nI (1)) dX12_keep_113 (by decide) ?_
        refine e_goto 118 dX12_keep_114 (by decide) ?_
        refine e_iaddN dX12_keep_118 ?_
        refine e_istore dX12_keep_119 (by decide) ?_
        refine e_iincN (t + 1) dX12_keep_121 rfl (by decide) (nI_add _ _) ?_
        refine e_goto 54 dX12_keep_124 (by decide) ?_
        refine Ev.drop 7 ?_
        exact ih (t + 1) (((q.1) ||| (nI (1) <<< (nI (t) &&& 31))), q.2 + 1) (by omega) (by rw [kpC, ← hq, if_pos ⟨by assumption, by omega⟩])
set_option maxRecDepth 20000 in
theorem lp_kpK (D : En) {s : SS} {τ : Nat → Int32} {h00 : AH} (hI : INV s) {post : Option Value → AH → Prop} {h : AH} {σ : Nat → Nat → Int32} (hR : RefAt h (sN s) σ τ) (c n w ch : Int32) (q : Int32 × Int32 × Int32) (e : Nat) (kk : Ev D 9 mX12_keep 195 [some (.ref 82), some (.int c), some (.int n), some (.int w), some (.int ch), none, some (.int q.1), some (.int q.2.1), some (.int q.2.2), some (.int (nI e)), some (.int (sumF (kpK (sN s) (nI e)) (tcN (sN s)))), none] [] h 0 0 post) : ∀ (j : Nat) (t : Nat) (ac : Int32), (t + j = tcN (sN s)) → (ac = sumF (kpK (sN s) (nI e)) t) → Ev D 9 mX12_keep 152 [some (.ref (82)), some (.int (c)), some (.int (n)), some (.int (w)), some (.int (ch)), none, some (.int (q.1)), some (.int (q.2.1)), some (.int (q.2.2)), some (.int (nI (e))), some (.int (ac)), some (.int (nI (t)))] [] h 0 0 post := by
  intro j
  induction j with
  | zero =>
    intro t ac hm ha
    have hY := hI.1.1
    have hnv := hY.2.1
    have htc10 := hY.2.2.2.1
    refine e_iload dX12_keep_152 rfl ?_
    refine e_aload_n dX12_keep_154 rfl ?_
    refine e_get dX12_keep_155 fl_X12_9_12 hR.1 rfl ?_
    refine e_iconst (nI (2)) dX12_keep_158 (by decide) ?_
    refine e_ild (2) (nI (tcN (sN s))) dX12_keep_159 hR.2.1 rfl (by omega) (by decide) hY.2.2.1 ?_
    refine e_icmp_geN 195 dX12_keep_160 (by decide) (by omega) (by omega) (fun hcq160 => ?_) (fun hcq160 => absurd hcq160 (by omega))
    rw [show t = tcN (sN s) by omega] at ha
    rw [ha]
    exact Ev.drop 11 kk
  | succ j ih =>
    intro t ac hm ha
    have hY := hI.1.1
    have hnv := hY.2.1
    have htc10 := hY.2.2.2.1
    refine e_iload dX12_keep_152 rfl ?_
    refine e_aload_n dX12_keep_154 rfl ?_
    refine e_get dX12_keep_155 fl_X12_9_12 hR.1 rfl ?_
    refine e_iconst (nI (2)) dX12_keep_158 (by decide) ?_
    refine e_ild (2) (nI (tcN (sN s))) dX12_keep_159 hR.2.1 rfl (by omega) (by decide) hY.2.2.1 ?_
    refine e_icmp_geN 195 dX12_keep_160 (by decide) (by omega) (by omega) (fun hcq160 => absurd hcq160 (by omega)) (fun hcq160 => ?_)
    refine e_iload dX12_keep_163 rfl ?_
    refine e_iload dX12_keep_165 rfl ?_
    refine e_iload dX12_keep_167 rfl ?_
    refine c_S2iR (N := mX12_has) dX12_keep_169 ls_X12_161 mo_X12_has  (Nat.le_of_ble_eq_true rfl) (Nat.le_of_ble_eq_true rfl) (by decide) (s_has D (nI (e)) (nI (t))) ?_
    refine e_if_eqB 185 dX12_keep_172 (by decide) (fun hcq172 => ?_) (fun hcq172 => ?_)
    · refine e_iconst (nI (0)) dX12_keep_185 (by decide) ?_
      refine e_top (kpK (sN s) (nI e) t) (by unfold kpK; first | exact (if_pos hcq172).symm | exact (if_neg hcq172).symm) ?_
      refine e_iadd dX12_keep_186 ?_
      refine e_istore dX12_keep_187 (by decide) ?_
      refine e_iincN (t + 1) dX12_keep_189 rfl (by decide) (nI_add _ _) ?_
      refine e_goto 152 dX12_keep_192 (by decide) ?_
      exact ih (t + 1) _ (by omega) (by rw [sumF, ← ha])
    · refine e_aload_n dX12_keep_175 rfl ?_
      refine e_iload dX12_keep_176 rfl ?_
      refine e_iconst (nI (2)) dX12_keep_178 (by decide) ?_
      refine c_V2iR (N := mX12_thing) dX12_keep_179 lv_X12_136 mo_X12_thing hR.cn (Nat.le_of_ble_eq_true rfl) (Nat.le_of_ble_eq_true rfl) (by decide) (s_thing D hR (t) (2) (by omega) (by omega)) ?_
      refine e_goto 186 dX12_keep_182 (by decide) ?_
      refine e_top (kpK (sN s) (nI e) t) (by unfold kpK; first | exact (if_pos hcq172).symm | exact (if_neg hcq172).symm) ?_
      refine e_iadd dX12_keep_186 ?_
      refine e_istore dX12_keep_187 (by decide) ?_
      refine e_iincN (t + 1) dX12_keep_189 rfl (by decide) (nI_add _ _) ?_
      refine e_goto 152 dX12_keep_192 (by decide) ?_
      exact ih (t + 1) _ (by omega) (by rw [sumF, ← ha])
set_option maxRecDepth 20000 in
theorem lp_kpO (D : En) {s : SS} {τ : Nat → Int32} {h00 : AH} (hI : INV s) {post : Option Value → AH → Prop} {σ : Nat → Nat → Int32} (c n w ch co : Int32) (q : Int32 × Int32 × Int32) (e : Nat) (kk : ∀ h', RefAt h' (kpO (sN s) ch (nI e) (tcN (sN s))) σ τ → FrR h00 h' → Ev D 9 mX12_keep 263 [some (.ref 82), some (.int c), some (.int n), some (.int w), some (.int ch), none, some (.int q.1), some (.int q.2.1), some (.int q.2.2), some (.int (nI e)), some (.int co), none] [] h' 0 0 post) : ∀ (j : Nat) (t : Nat) (h : AH) (M : Nat → Int32), (t + j = tcN (sN s)) → (RefAt h M σ τ) → (FrR h00 h) → (M = kpO (sN s) ch (nI e) t) → Ev D 9 mX12_keep 214 [some (.ref (82)), some (.int (c)), some (.int (n)), some (.int (w)), some (.int (ch)), none, some (.int (q.1)), some (.int (q.2.1)), some (.int (q.2.2)), some (.int (nI (e))), some (.int (co)), some (.int (nI (t)))] [] h 0 0 post := by
  intro j
  induction j with
  | zero =>
    intro t h M hm hR hF hM
    have hY := hI.1.1
    have hnv := hY.2.1
    have htc10 := hY.2.2.2.1
    have hYM : YW M (nvN (sN s)) (tcN (sN s)) (txN (sN s)) := by rw [hM]; exact kpO_YW hY _ _ _ (by omega)
    refine e_iload dX12_keep_214 rfl ?_
    refine e_aload_n dX12_keep_216 rfl ?_
    refine e_get dX12_keep_217 fl_X12_9_12 hR.1 rfl ?_
    refine e_iconst (nI (2)) dX12_keep_220 (by decide) ?_
    refine e_ild (2) (nI (tcN (sN s))) dX12_keep_221 hR.2.1 rfl (by omega) (by decide) hYM.2.2.1 ?_
    refine e_icmp_geN 263 dX12_keep_222 (by decide) (by omega) (by omega) (fun hcq222 => ?_) (fun hcq222 => absurd hcq222 (by omega))
    rw [show t = tcN (sN s) by omega] at hM
    rw [hM] at hR
    exact Ev.drop 11 (kk h hR hF)
  | succ j ih =>
    intro t h M hm hR hF hM
    have hY := hI.1.1
    have hnv := hY.2.1
    have htc10 := hY.2.2.2.1
    have hYM : YW M (nvN (sN s)) (tcN (sN s)) (txN (sN s)) := by rw [hM]; exact kpO_YW hY _ _ _ (by omega)
    refine e_iload dX12_keep_214 rfl ?_
    refine e_aload_n dX12_keep_216 rfl ?_
    refine e_get dX12_keep_217 fl_X12_9_12 hR.1 rfl ?_
    refine e_iconst (nI (2)) dX12_keep_220 (by decide) ?_
    refine e_ild (2) (nI (tcN (sN s))) dX12_keep_221 hR.2.1 rfl (by omega) (by decide) hYM.2.2.1 ?_
    refine e_icmp_geN 263 dX12_keep_222 (by decide) (by omega) (by omega) (fun hcq222 => absurd hcq222 (by omega)) (fun hcq222 => ?_)
    refine e_aload_n dX12_keep_225 rfl ?_
    refine e_iload dX12_keep_226 rfl ?_
    refine e_iload dX12_keep_228 rfl ?_
    refine e_iload dX12_keep_230 rfl ?_
    refine c_S2iR (N := mX12_has) dX12_keep_232 ls_X12_161 mo_X12_has  (Nat.le_of_ble_eq_true rfl) (Nat.le_of_ble_eq_true rfl) (by decide) (s_has D ((ch)) (nI (t))) ?_
    refine e_if_eqB 248 dX12_keep_235 (by decide) (fun hcq235 => ?_) (fun hcq235 => ?_)
    · refine e_aload_n dX12_keep_248 rfl ?_
      refine e_iload dX12_keep_249 rfl ?_
      refine c_V1iR (N := mX12_isOpen) dX12_keep_251 lv_X12_158 mo_X12_isOpen hR.cn (Nat.le_of_ble_eq_true rfl) (Nat.le_of_ble_eq_true rfl) (by decide) (s_isOpen D hR (t) (by omega)) ?_
      refine c_V2v (nc := 0) (ns := 0) (mc := 0) (ms := 0) (N := mX12_opens) dX12_keep_254 lv_X12_246 mo_X12_opens hR.cn (Nat.le_of_ble_eq_true rfl) (Nat.le_of_ble_eq_true rfl) (by decide) (s_opens D hR (t) (by omega) (b2 (M (112 + 7 * t + 5) = nI 1))) (fun h hP => ?_)
      obtain ⟨hR, hF1⟩ := hP
      have hF := hF.trans hF1
      rw [ob2] at hR
      refine e_iincN (t + 1) dX12_keep_257 rfl (by decide) (nI_add _ _) ?_
      refine e_goto 214 dX12_keep_260 (by decide) ?_
      exact ih (t + 1) h _ (by omega) hR hF (by rw [kpO, ← hM, if_neg hcq235])
    · refine e_iload dX12_keep_238 rfl ?_
      refine e_iload dX12_keep_240 rfl ?_
      refine c_S2iR (N := mX12_has) dX12_keep_242 ls_X12_161 mo_X12_has  (Nat.le_of_ble_eq_true rfl) (Nat.le_of_ble_eq_true rfl) (by decide) (s_has D (nI (e)) (nI (t))) ?_
      refine e_goto 254 dX12_keep_245 (by decide) ?_
      refine c_V2v (nc := 0) (ns := 0) (mc := 0) (ms := 0) (N := mX12_opens) dX12_keep_254 lv_X12_246 mo_X12_opens hR.cn (Nat.le_of_ble_eq_true rfl) (Nat.le_of_ble_eq_true rfl) (by decide) (s_opens D hR (t) (by omega) (b2 ((nI (e) >>> (nI (t) &&& 31)) &&& nI 1 = nI 1))) (fun h hP => ?_)
      obtain ⟨hR, hF1⟩ := hP
      have hF := hF.trans hF1
      rw [ob2] at hR
      refine e_iincN (t + 1) dX12_keep_257 rfl (by decide) (nI_add _ _) ?_
      refine e_goto 214 dX12_keep_260 (by decide) ?_
      exact ih (t + 1) h _ (by omega) hR hF (by rw [kpO, ← hM, if_pos hcq235])
set_option maxRecDepth 20000 in
theorem lp_kpF (D : En) {s : SS} {τ : Nat → Int32} {h00 : AH} (hI : INV s) {post : Option Value → AH → Prop} (c n w ch : Int32) (hn_n : n = nI (tn n)) (hl_n : tn n ≤ 40) (hn_ch : ch = nI (tn ch)) (hl_ch : tn ch < 1024) (kk : ∀ h σ, RefAt h (sN s) σ τ → FrR h00 h → RS σ τ s → Ev D 9 mX12_keep 325 [some (.ref 82), some (.int c), some (.int n), some (.int w), some (.int ch), none, some (.int (kpF (sN s) c ch (tn n) (tn ch + 1)).1), some (.int (kpF (sN s) c ch (tn n) (tn ch + 1)).2.1), some (.int (kpF (sN s) c ch (tn n) (tn ch + 1)).2.2), none, none, none] [] h 0 0 post) : ∀ (j : Nat) (e : Nat) (h : AH) (σ : Nat → Nat → Int32) (q : Int32 × Int32 × Int32), (e + j = tn ch + 1) → (RefAt h (sN s) σ τ) → (FrR h00 h) → (RS σ τ s) → (σ 2 = sN s) → (q = kpF (sN s) c ch (tn n) e) → Ev D 9 mX12_keep 139 [some (.ref (82)), some (.int (c)), some (.int (n)), some (.int (w)), some (.int (ch)), none, some (.int (q.1)), some (.int (q.2.1)), some (.int (q.2.2)), some (.int (nI (e))), none, none] [] h 0 0 post := by
  intro j
  induction j with
  | zero =>
    intro e h σ q hm hR hF hS hA2 hq
    have hY := hI.1.1
    have hnv := hY.2.1
    have htc10 := hY.2.2.2.1
    refine e_iload dX12_keep_139 rfl ?_
    refine e_iload dX12_keep_141 rfl ?_
    refine e_top (nI (tn ch)) (hn_ch) ?_
    refine e_icmp_gtN 325 dX12_keep_143 (by decide) (by omega) (by omega) (fun hcq143 => ?_) (fun hcq143 => absurd hcq143 (by omega))
    rw [show e = tn ch + 1 by omega] at hq
    rw [hq]
    exact Ev.drop 9 (kk h σ hR hF hS)
  | succ j ih =>
    intro e h σ q hm hR hF hS hA2 hq
    have hY := hI.1.1
    have hnv := hY.2.1
    have htc10 := hY.2.2.2.1
    refine e_iload dX12_keep_139 rfl ?_
    refine e_iload dX12_keep_141 rfl ?_
    refine e_top (nI (tn ch)) (hn_ch) ?_
    refine e_icmp_gtN 325 dX12_keep_143 (by decide) (by omega) (by omega) (fun hcq143 => absurd hcq143 (by omega)) (fun hcq143 => ?_)
    refine e_iconst (nI (0)) dX12_keep_146 (by decide) ?_
    refine e_istore dX12_keep_147 (by decide) ?_
    refine e_iconst (nI (0)) dX12_keep_149 (by decide) ?_
    refine e_istore dX12_keep_150 (by decide) ?_
    refine lp_kpK D hI (h00 := h) hR c n w ch q e ?_ (tcN (sN s)) 0 _ (by omega) rfl
    refine e_iload dX12_keep_195 rfl ?_
    refine e_iload dX12_keep_197 rfl ?_
    refine e_iconst (((-1))) dX12_keep_199 (by decide) ?_
    refine e_ixor dX12_keep_200 ?_
    refine e_iand dX12_keep_201 ?_
    refine e_if_ne 319 dX12_keep_202 (by decide) (fun hcq202 => ?_) (fun hcq202 => ?_)
    · refine e_iincN (e + 1) dX12_keep_319 rfl (by decide) (nI_add _ _) ?_
      refine e_goto 139 dX12_keep_322 (by decide) ?_
      refine Ev.drop 10 (Ev.drop 11 ?_)
      exact ih (e + 1) h σ q (by omega) hR hF hS hA2 (by rw [kpF, ← hq]; exact (if_neg hcq202).symm)
    · refine e_iload dX12_keep_205 rfl ?_
      refine e_iload_n dX12_keep_207 rfl ?_
      refine e_icmp_gt 319 dX12_keep_208 (by decide) (fun hcq208 => ?_) (fun hcq208 => ?_)
      · refine e_iincN (e + 1) dX12_keep_319 rfl (by decide) (nI_add _ _) ?_
        refine e_goto 139 dX12_keep_322 (by decide) ?_
        refine Ev.drop 10 (Ev.drop 11 ?_)
        exact ih (e + 1) h σ q (by omega) hR hF hS hA2 (by rw [kpF, ← hq]; exact ((if_pos hcq202).trans (if_pos hcq208)).symm)
      · refine e_iconst (nI (0)) dX12_keep_211 (by decide) ?_
        refine e_istore dX12_keep_212 (by decide) ?_
        refine lp_kpO D hI (h00 := h00) c n w ch (sumF (kpK (sN s) (nI e)) (tcN (sN s))) q e (fun h hR hF => ?_) (tcN (sN s)) 0 h (sN s) (by omega) hR hF rfl
        have hY := kpO_YW hY ch (nI e) (tcN (sN s)) (by omega)
        refine e_aload_n dX12_keep_263 rfl ?_
        refine e_iload_n dX12_keep_264 rfl ?_
        refine e_top (nI (tn n)) (hn_n) ?_
        refine c_V1i (nc := 0) (ns := 0) (mc := 0) (ms := 0) (N := mX12_ahead) dX12_keep_265 lv_X12_284 mo_X12_ahead hR.cn (Nat.le_of_ble_eq_true rfl) (Nat.le_of_ble_eq_true rfl) (by decide) (s_ahead D hR hY (tn n) (by omega)) (fun h hP => ?_)
        have hG9 := hS.2.1.1
        obtain ⟨σ, hR, hE1, hF1⟩ := hP
        have hF := hF.trans hF1
        rw [hG9] at hR
        have hR : RefAt h (yrX (sN s) (kpO (sN s) ch (nI e) (tcN (sN s))) (tn n)) σ τ := hR
        have hA2 := (hE1 2 (by decide) (by decide) (by decide)).trans hA2
        have hS := hS.to (fun i hi => hE1 i hi.2.1 hi.2.2.2.1 hi.2.2.2.2.1) rfl rfl
        have hY : YW (yrX (sN s) (kpO (sN s) ch (nI e) (tcN (sN s))) (tn n)) (nvN (sN s)) (tcN (sN s)) (txN (sN s)) := yrsR_YW G0 hY _
        refine e_top (ppN (yrX (sN s) (kpO (sN s) ch (nI e) (tcN (sN s))) (tn n)) (nvN (sN s))) (by rw [hG9]; rfl) ?_
        refine e_istore dX12_keep_268 (by decide) ?_
        refine e_aload_n dX12_keep_270 rfl ?_
        refine e_get dX12_keep_271 fl_X12_16_12 hR.1 rfl ?_
        refine e_aload_n dX12_keep_274 rfl ?_
        refine e_get dX12_keep_275 fl_X12_9_12 hR.1 rfl ?_
        refine c_S2v (nc := 0) (ns := 0) (mc := 0) (ms := 0) (N := mX12_copy) dX12_keep_278 ls_X12_277 mo_X12_copy  (Nat.le_of_ble_eq_true rfl) (Nat.le_of_ble_eq_true rfl) (by decide) (s_copyAN D hR) (fun h hP => ?_)
        obtain ⟨hR, hF1⟩ := hP
        have hF := hF.trans hF1
        rw [hA2] at hR
        have hY := hI.1.1
        refine e_iload dX12_keep_281 rfl ?_
        refine e_if_lt 307 dX12_keep_283 (by decide) (fun hcq283 => ?_) (fun hcq283 => ?_)
        · refine e_iload dX12_keep_307 rfl ?_
          refine e_istore dX12_keep_309 (by decide) ?_
          refine e_iload dX12_keep_311 rfl ?_
          refine e_istore dX12_keep_313 (by decide) ?_
          refine e_iload dX12_keep_315 rfl ?_
          refine e_istore dX12_keep_317 (by decide) ?_
          refine e_iincN (e + 1) dX12_keep_319 rfl (by decide) (nI_add _ _) ?_
          refine e_goto 139 dX12_keep_322 (by decide) ?_
          refine Ev.drop 10 (Ev.drop 11 ?_)
          exact ih (e + 1) h σ (nI (e), (ppN (yrX (sN s) (kpO (sN s) ch (nI e) (tcN (sN s))) (tn n)) (nvN (sN s))), (sumF (kpK (sN s) (nI e)) (tcN (sN s)))) (by omega) hR hF hS hA2 (by rw [kpF, ← hq]; exact ((if_pos hcq202).trans ((if_neg hcq208).trans (if_pos hcq283))).symm)
        · refine e_iload dX12_keep_286 rfl ?_
          refine e_iload dX12_keep_288 rfl ?_
          refine e_icmp_gt 307 dX12_keep_290 (by decide) (fun hcq290 => ?_) (fun hcq290 => ?_)
          · refine e_iload dX12_keep_307 rfl ?_
            refine e_istore dX12_keep_309 (by decide) ?_
            refine e_iload dX12_keep_311 rfl ?_
            refine e_istore dX12_keep_313 (by decide) ?_
            refine e_iload dX12_keep_315 rfl ?_
            refine e_istore dX12_keep_317 (by decide) ?_
            refine e_iincN (e + 1) dX12_keep_319 rfl (by decide) (nI_add _ _) ?_
            refine e_goto 139 dX12_keep_322 (by decide) ?_
            refine Ev.drop 10 (Ev.drop 11 ?_)
            exact ih (e + 1) h σ (nI (e), (ppN (yrX (sN s) (kpO (sN s) ch (nI e) (tcN (sN s))) (tn n)) (nvN (sN s))), (sumF (kpK (sN s) (nI e)) (tcN (sN s)))) (by omega) hR hF hS hA2 (by rw [kpF, ← hq]; exact ((if_pos hcq202).trans ((if_neg hcq208).trans ((if_neg hcq283).trans (if_pos hcq290)))).symm)
          · refine e_iload dX12_keep_293 rfl ?_
            refine e_iload dX12_keep_295 rfl ?_
            refine e_icmp_ne 319 dX12_keep_297 (by decide) (fun hcq297 => ?_) (fun hcq297 => ?_)
            · refine e_iincN (e + 1) dX12_keep_319 rfl (by decide) (nI_add _ _) ?_
              refine e_goto 139 dX12_keep_322 (by decide) ?_
              refine Ev.drop 10 (Ev.drop 11 ?_)
              exact ih (e + 1) h σ q (by omega) hR hF hS hA2 (by rw [kpF, ← hq]; exact ((if_pos hcq202).trans ((if_neg hcq208).trans ((if_neg hcq283).trans ((if_neg hcq290).trans (if_neg hcq297))))).symm)
            · refine e_iload dX12_keep_300 rfl ?_
              refine e_iload dX12_keep_302 rfl ?_
              refine e_icmp_ge 319 dX12_keep_304 (by decide) (fun hcq304 => ?_) (fun hcq304 => ?_)
              · refine e_iincN (e + 1) dX12_keep_319 rfl (by decide) (nI_add _ _) ?_
                refine e_goto 139 dX12_keep_322 (by decide) ?_
                refine Ev.drop 10 (Ev.drop 11 ?_)
                exact ih (e + 1) h σ q (by omega) hR hF hS hA2 (by rw [kpF, ← hq]; exact ((if_pos hcq202).trans ((if_neg hcq208).trans ((if_neg hcq283).trans ((if_neg hcq290).trans ((if_pos hcq297).trans (if_pos hcq304)))))).symm)
              · refine e_iload dX12_keep_307 rfl ?_
                refine e_istore dX12_keep_309 (by decide) ?_
                refine e_iload dX12_keep_311 rfl ?_
                refine e_istore dX12_keep_313 (by decide) ?_
                refine e_iload dX12_keep_315 rfl ?_
                refine e_istore dX12_keep_317 (by decide) ?_
                refine e_iincN (e + 1) dX12_keep_319 rfl (by decide) (nI_add _ _) ?_
                refine e_goto 139 dX12_keep_322 (by decide) ?_
                refine Ev.drop 10 (Ev.drop 11 ?_)
                exact ih (e + 1) h σ (nI (e), (ppN (yrX (sN s) (kpO (sN s) ch (nI e) (tcN (sN s))) (tn n)) (nvN (sN s))), (sumF (kpK (sN s) (nI e)) (tcN (sN s)))) (by omega) hR hF hS hA2 (by rw [kpF, ← hq]; exact ((if_pos hcq202).trans ((if_neg hcq208).trans ((if_neg hcq283).trans ((if_neg hcq290).trans ((if_pos hcq297).trans (if_neg hcq304)))))).symm)
set_option maxRecDepth 20000 in
theorem rp_keep (D : En) {h : AH} {s : SS} (hI : INV s) (hRS : RefS h s) (c : Int32) (n : Int32) (w : Int32) : Sp D 9 mX12_keep [.ref (82), .int (c), .int (n), .int (w)] h 0 0 (some (.int (f_keep s c n w).1)) (fun h' => RefS h' (f_keep s c n w).2 ∧ FrR h h') := by
  obtain ⟨σ, τ, hR, hS⟩ := hRS
  have hY := hI.1.1
  have hnv := hY.2.1
  have htc10 := hY.2.2.2.1
  obtain ⟨h00, hh00⟩ : ∃ z, z = h := ⟨_, rfl⟩
  have hF : FrR h00 h := by rw [hh00]; exact FrR.rf
  intro post hp
  rw [← hh00] at hp
  show Ev D 9 mX12_keep 0 [some (.ref (82)), some (.int (c)), some (.int (n)), some (.int (w)), none, none, none, none, none, none, none, none] [] h 0 0 post
  refine e_iload_n dX12_keep_0 rfl ?_
  refine e_iconst (nI (0)) dX12_keep_1 (by decide) ?_
  refine e_sipush (nI (9999)) dX12_keep_2 (by decide) ?_
  refine c_S3iR (N := mX12_within) dX12_keep_5 ls_X12_76 mo_X12_within  (Nat.le_of_ble_eq_true rfl) (Nat.le_of_ble_eq_true rfl) (by decide) (s_within D ((c)) (nI (0)) (nI (9999))) ?_
  refine e_if_eqB 27 dX12_keep_8 (by decide) (fun hcq8 => ?_) (fun hcq8 => ?_)
  · refine e_aload_n dX12_keep_27 rfl ?_
    refine e_ldc dX12_keep_28 w_1294 ?_
    refine c_V1i (nc := 0) (ns := 0) (mc := 0) (ms := 0) (N := mX12_finding) dX12_keep_30 lv_X12_90 mo_X12_finding hR.cn (Nat.le_of_ble_eq_true rfl) (Nat.le_of_ble_eq_true rfl) (by decide) (s_finding D hR 1 (by decide) (((-1000000001))) fE1) (fun h hP => ?_)
    obtain ⟨hR, hF1⟩ := hP
    have hF := hF.trans hF1
    have hS := hS.er 1
    refine e_top (lowE 1) lE1 ?_
    have e9 : f_keep s c n w = er 1 (s) := by rw [f_keep, if_neg hcq8]
    rw [e9] at hp
    exact e_iret dX12_keep_33 rfl (hp _ ⟨⟨_, _, hR, hS⟩, hF⟩)
  · obtain ⟨hn_c, hg_c, hl_c⟩ := wiN hcq8 (by decide) (by decide)
    refine e_iload_n dX12_keep_11 rfl ?_
    refine c_S1iR (N := mX12_isAhead) dX12_keep_12 ls_X12_281 mo_X12_isAhead  (Nat.le_of_ble_eq_true rfl) (Nat.le_of_ble_eq_true rfl) (by decide) (s_isAhead D ((n))) ?_
    refine e_if_eqB 27 dX12_keep_15 (by decide) (fun hcq15 => ?_) (fun hcq15 => ?_)
    · refine e_aload_n dX12_keep_27 rfl ?_
      refine e_ldc dX12_keep_28 w_1294 ?_
      refine c_V1i (nc := 0) (ns := 0) (mc := 0) (ms := 0) (N := mX12_finding) dX12_keep_30 lv_X12_90 mo_X12_finding hR.cn (Nat.le_of_ble_eq_true rfl) (Nat.le_of_ble_eq_true rfl) (by decide) (s_finding D hR 1 (by decide) (((-1000000001))) fE1) (fun h hP => ?_)
      obtain ⟨hR, hF1⟩ := hP
      have hF := hF.trans hF1
      have hS := hS.er 1
      refine e_top (lowE 1) lE1 ?_
      have e9 : f_keep s c n w = er 1 (s) := by rw [f_keep, if_pos hcq8, if_neg hcq15]
      rw [e9] at hp
      exact e_iret dX12_keep_33 rfl (hp _ ⟨⟨_, _, hR, hS⟩, hF⟩)
    · obtain ⟨hn_n, hg_n, hl_n⟩ := wiN hcq15 (by decide) (by decide)
      refine e_iload_n dX12_keep_18 rfl ?_
      refine e_iconst (nI (0)) dX12_keep_19 (by decide) ?_
      refine e_iconst (nI (1)) dX12_keep_20 (by decide) ?_
      refine c_S3iR (N := mX12_within) dX12_keep_21 ls_X12_76 mo_X12_within  (Nat.le_of_ble_eq_true rfl) (Nat.le_of_ble_eq_true rfl) (by decide) (s_within D ((w)) (nI (0)) (nI (1))) ?_
      refine e_if_neB 34 dX12_keep_24 (by decide) (fun hcq24 => ?_) (fun hcq24 => ?_)
      · obtain ⟨hn_w, hg_w, hl_w⟩ := wiN hcq24 (by decide) (by decide)
        refine e_aload_n dX12_keep_34 rfl ?_
        refine e_get dX12_keep_35 fl_X12_9_12 hR.1 rfl ?_
        refine e_aload_n dX12_keep_38 rfl ?_
        refine e_get dX12_keep_39 fl_X12_16_12 hR.1 rfl ?_
        refine c_S2v (nc := 0) (ns := 0) (mc := 0) (ms := 0) (N := mX12_copy) dX12_keep_42 ls_X12_277 mo_X12_copy  (Nat.le_of_ble_eq_true rfl) (Nat.le_of_ble_eq_true rfl) (by decide) (s_copyNA D hR) (fun h hP => ?_)
        obtain ⟨hR, hF1⟩ := hP
        have hF := hF.trans hF1
        obtain ⟨σ, hR, hA2, hS⟩ : ∃ z, RefAt h (sN s) z τ ∧ z 2 = sN s ∧ RS z τ s := ⟨_, hR, va_upS _ _ _, hS.to (fun i hi => va_upN _ _ hi.1) rfl rfl⟩
        refine e_iconst (nI (0)) dX12_keep_45 (by decide) ?_
        refine e_istore dX12_keep_46 (by decide) ?_
        refine e_iconst (nI (0)) dX12_keep_48 (by decide) ?_
        refine e_istore dX12_keep_49 (by decide) ?_
        refine e_iconst (nI (0)) dX12_keep_51 (by decide) ?_
        refine e_istore dX12_keep_52 (by decide) ?_
        refine lp_kpC D hI (h00 := h) hR c n w ?_ (tcN (sN s)) 0 (nI 0, 0) (by omega) rfl
        refine e_iconst (((-1))) dX12_keep_127 (by decide) ?_
        refine e_istore dX12_keep_128 (by decide) ?_
        refine e_iconst (nI (0)) dX12_keep_130 (by decide) ?_
        refine e_istore dX12_keep_131 (by decide) ?_
        refine e_iconst (nI (0)) dX12_keep_133 (by decide) ?_
        refine e_istore dX12_keep_134 (by decide) ?_
        refine e_iconst (nI (0)) dX12_keep_136 (by decide) ?_
        refine e_istore dX12_keep_137 (by decide) ?_
        obtain ⟨ca, hca, hca2⟩ := kpC_n (sN s) (tcN (sN s)) (by omega)
        have hp10 : 2 ^ tcN (sN s) ≤ 2 ^ 10 := Nat.pow_le_pow_right (by decide) (by omega)
        have htc : tn (kpC (sN s) (tcN (sN s))).1 = ca := by rw [hca]; exact tn_nI (by omega)
        refine lp_kpF D hI (h00 := h00) c n w (kpC (sN s) (tcN (sN s))).1 hn_n (by omega) (by rw [htc]; exact hca) (by omega) (fun h σ hR hF hS => ?_) (tn (kpC (sN s) (tcN (sN s))).1 + 1) 0 h σ ((-1), nI 0, nI 0) (by omega) hR hF hS hA2 rfl
        refine e_iload_n dX12_keep_325 rfl ?_
        refine e_top (nI (tn w)) (hn_w) ?_
        refine e_if_neN 334 dX12_keep_326 (by decide) (by omega) (fun hcq326 => ?_) (fun hcq326 => ?_)
        · refine e_iload dX12_keep_334 rfl ?_
          have e9 : f_keep s c n w = (((kpR (sN s) c (tn n)).2.1), s) := by rw [f_keep, if_pos hcq8, if_pos hcq15, if_pos hcq24, if_neg hcq326]
          rw [e9] at hp
          exact e_iret dX12_keep_336 rfl (hp _ ⟨⟨_, _, hR, hS⟩, hF⟩)
        · refine e_iload dX12_keep_329 rfl ?_
          refine e_goto 336 dX12_keep_331 (by decide) ?_
          have e9 : f_keep s c n w = (((kpR (sN s) c (tn n)).1), s) := by rw [f_keep, if_pos hcq8, if_pos hcq15, if_pos hcq24, if_pos hcq326]
          rw [e9] at hp
          exact e_iret dX12_keep_336 rfl (hp _ ⟨⟨_, _, hR, hS⟩, hF⟩)
      · refine e_aload_n dX12_keep_27 rfl ?_
        refine e_ldc dX12_keep_28 w_1294 ?_
        refine c_V1i (nc := 0) (ns := 0) (mc := 0) (ms := 0) (N := mX12_finding) dX12_keep_30 lv_X12_90 mo_X12_finding hR.cn (Nat.le_of_ble_eq_true rfl) (Nat.le_of_ble_eq_true rfl) (by decide) (s_finding D hR 1 (by decide) (((-1000000001))) fE1) (fun h hP => ?_)
        obtain ⟨hR, hF1⟩ := hP
        have hF := hF.trans hF1
        have hS := hS.er 1
        refine e_top (lowE 1) lE1 ?_
        have e9 : f_keep s c n w = er 1 (s) := by rw [f_keep, if_pos hcq8, if_pos hcq15, if_neg hcq24]
        rw [e9] at hp
        exact e_iret dX12_keep_33 rfl (hp _ ⟨⟨_, _, hR, hS⟩, hF⟩)
