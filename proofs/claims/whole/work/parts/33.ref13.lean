theorem onP_0 (tp : Nat → Int32) (L u : Nat) (s : PT) : onP tp L u 0 s = onB tp L u (wrP s) (wrP s) s := rfl
theorem onP_S (tp : Nat → Int32) (L u q : Nat) (s : PT) : onP tp L u (q + 1) s = onB tp L u (cdP 20010 (onP tp L u q (adP s))) (clP tp L (eiW tp L (onP tp L u q) (adP s))) s := rfl
theorem clP_t {tp : Nat → Int32} {L : Nat} {y : PT} (h : hrP tp L y = nI 41) (hw : y.2.1 = false) : ((adP y).1, false, (adP y).2.2) = clP tp L y := by
  unfold clP
  rw [if_pos h]
  exact Prod.ext rfl (Prod.ext hw.symm rfl)
theorem clP_f {tp : Nat → Int32} {L : Nat} {y : PT} (h : ¬ hrP tp L y = nI 41) : (y.1, true, y.2.2) = clP tp L y := by
  unfold clP
  rw [if_neg h]
  rfl
theorem PB.l60 {L : Nat} {s : PT} (hB : PB L s) (hL50 : L ≤ 50) : s.2.1 = false → s.2.2.length < 60 := fun z => by
  have h1 := hB.1
  have h2 := hB.2 z
  omega
theorem dig_n {x : Int32} (h : nI 48 ≤ x ∧ x ≤ nI 57) : x = nI x.toNatClampNeg := by
  obtain ⟨h1, h2⟩ := h
  have h3 : (0 : Int32) ≤ x := Int32.le_trans (by decide) h1
  unfold nI
  rw [Int32.ofNat_toNatClampNeg _ h3]
theorem dig_b {x : Int32} (h : nI 48 ≤ x ∧ x ≤ nI 57) : 48 ≤ x.toNatClampNeg := by
  obtain ⟨h1, h2⟩ := h
  have h3 : (nI 48).toInt ≤ x.toInt := Int32.le_iff_toInt_le.mp h1
  have h4 : (nI 48).toInt = 48 := by decide
  show 48 ≤ x.toInt.toNat
  omega
set_option maxRecDepth 20000 in
theorem l_dig (D : En) {N : Nat → Int32} {σ0 : Nat → Nat → Int32} {τ0 : Nat → Int32} {u op L dq : Nat} (hu3 : u < 3) (hL : N 3 = nI L) (hL50 : L ≤ 50) (c0 : Int32) (hdq : 2 ≤ dq) : ∀ (n : Nat) (h0 h : AH) (v k : Nat) (s : PT), k + n = 4 → PB L s → PA h0 h N σ0 τ0 u op s → ∀ {post : Option Value → AH → Prop}, (∀ h', PA h0 h' N σ0 τ0 u op (dgP (tpR N) L n v s) → post none h') → Ev D dq mX12_one 131 [some (.ref 82), some (.int c0), some (.int (nI v)), some (.int (nI k))] [] h 0 0 post := by
  intro n
  induction n with
  | zero =>
    intro h0 h v k s hm hB hA post hp
    obtain ⟨c, τ, hR, hF, hK⟩ := hA
    have hB1 := hB.1
    refine e_iload_n dX12_one_131 rfl ?_
    refine e_iconst (nI (4)) dX12_one_132 (by decide) ?_
    refine e_icmp_geN 179 dX12_one_133 (by decide) (by omega) (by omega) (fun hcq133 => ?_) (fun hcq133 => absurd hcq133 (by omega))
    refine e_aload_n dX12_one_179 rfl ?_
    refine e_iload_n dX12_one_180 rfl ?_
    refine c_V1v (nc := 0) (ns := 0) (mc := 0) (ms := 0) (N := mX12_codes) dX12_one_181 lv_X12_193 mo_X12_codes hR.cn (Nat.le_of_ble_eq_true rfl) (Nat.le_of_ble_eq_true rfl) (by omega) (s_codes D hL hL50 hB hR hF hK (v) (hB.l60 hL50)) (fun h hP => ?_)
    obtain ⟨c, τ, hR, hF, hK⟩ := hP
    refine e_goto 247 dX12_one_184 (by decide) ?_
    exact e_vret dX12_one_247 rfl (hp _ ⟨c, τ, hR, hF, hK⟩)
  | succ n ih =>
    intro h0 h v k s hm hB hA post hp
    obtain ⟨c, τ, hR, hF, hK⟩ := hA
    have hB1 := hB.1
    refine e_iload_n dX12_one_131 rfl ?_
    refine e_iconst (nI (4)) dX12_one_132 (by decide) ?_
    refine e_icmp_geN 179 dX12_one_133 (by decide) (by omega) (by omega) (fun hcq133 => absurd hcq133 (by omega)) (fun hcq133 => ?_)
    refine e_aload_n dX12_one_136 rfl ?_
    refine c_V0iR (N := mX12_here) dX12_one_137 lv_X12_181 mo_X12_here hR.cn (Nat.le_of_ble_eq_true rfl) (Nat.le_of_ble_eq_true rfl) (by omega) (s_here D hL hL50 hB hR hF hK) ?_
    refine e_bipush (nI (48)) dX12_one_140 (by decide) ?_
    refine e_bipush (nI (57)) dX12_one_142 (by decide) ?_
    refine c_S3iR (N := mX12_within) dX12_one_144 ls_X12_76 mo_X12_within  (Nat.le_of_ble_eq_true rfl) (Nat.le_of_ble_eq_true rfl) (by omega) (s_within D ((hrP (tpR N) L (s))) (nI (48)) (nI (57))) ?_
    refine e_if_eqB 179 dX12_one_147 (by decide) (fun hcq147 => ?_) (fun hcq147 => ?_)
    · refine e_aload_n dX12_one_179 rfl ?_
      refine e_iload_n dX12_one_180 rfl ?_
      refine c_V1v (nc := 0) (ns := 0) (mc := 0) (ms := 0) (N := mX12_codes) dX12_one_181 lv_X12_193 mo_X12_codes hR.cn (Nat.le_of_ble_eq_true rfl) (Nat.le_of_ble_eq_true rfl) (by omega) (s_codes D hL hL50 hB hR hF hK (v) (hB.l60 hL50)) (fun h hP => ?_)
      obtain ⟨c, τ, hR, hF, hK⟩ := hP
      refine e_goto 247 dX12_one_184 (by decide) ?_
      exact e_vret dX12_one_247 rfl (hp _ ⟨c, τ, hR, hF, by rw [dgP, if_neg hcq147]; exact hK⟩)
    · have hqt := hrP_t (tp := tpR N) (L := L) (s := s) (fun e9 => by rw [e9] at hcq147; exact absurd hcq147.1 (by decide))
      have hdc : hrP (tpR N) L s = nI (hrP (tpR N) L s).toNatClampNeg := dig_n hcq147
      have hdn := dig_b hcq147
      refine e_bipush (nI (10)) dX12_one_150 (by decide) ?_
      refine e_iload_n dX12_one_152 rfl ?_
      refine e_imulN dX12_one_153 ?_
      refine e_aload_n dX12_one_154 rfl ?_
      refine c_V0iR (N := mX12_here) dX12_one_155 lv_X12_181 mo_X12_here hR.cn (Nat.le_of_ble_eq_true rfl) (Nat.le_of_ble_eq_true rfl) (by omega) (s_here D hL hL50 hB hR hF hK) ?_
      refine e_top (nI ((hrP (tpR N) L s).toNatClampNeg)) (hdc) ?_
      refine e_iaddN dX12_one_158 ?_
      refine e_bipush (nI (48)) dX12_one_159 (by decide) ?_
      refine e_isubN dX12_one_161 (by omega) ?_
      refine e_istore_n dX12_one_162 (by decide) ?_
      refine e_aload_n dX12_one_163 rfl ?_
      refine e_dup dX12_one_164 rfl ?_
      refine e_get dX12_one_165 fl_X12_177_12 hR.1 rfl ?_
      refine e_top (nI ((s).1)) (hK.1) ?_
      refine e_iconst (nI (1)) dX12_one_168 (by decide) ?_
      refine e_iaddN dX12_one_169 ?_
      refine r_put (upd τ 1 (nI (((s).1) + 1))) dX12_one_170 fl_X12_177_12 hR hF rfl (by decide) rfl rfl rfl (fun h hR hF => ?_)
      have hK := hK.p1 (((s).1) + 1)
      obtain ⟨τ, hτq⟩ : ∃ z, z = upd τ 1 (nI (((s).1) + 1)) := ⟨_, rfl⟩
      rw [← hτq] at hR hK
      clear hτq
      rw [show (((s).1) + 1, (s).2) = adP (s) from rfl] at hK
      refine e_iincN (k + 1) dX12_one_173 rfl (by decide) (nI_add _ _) ?_
      refine e_goto 131 dX12_one_176 (by decide) ?_
      exact ih h0 h _ (k + 1) (adP s) (by omega) (hB.adv hqt.2) ⟨c, τ, hR, hF, hK⟩ (fun h9 z9 => hp h9 (by rw [dgP, if_pos hcq147]; exact z9))
set_option maxRecDepth 20000 in
theorem s_one0 (D : En) {N : Nat → Int32} {σ0 : Nat → Nat → Int32} {τ0 : Nat → Int32} {u L dq : Nat} (hu3 : u < 3) (hL : N 3 = nI L) (hL50 : L ≤ 50) (hdq : 5 ≤ dq) : RD D dq mX12_one N σ0 τ0 u 5 L (onP (tpR N) L u 0) := by
  intro h0 h s hB hA post hp
  have hB1 := hB.1
  obtain ⟨c, τ, hR, hF, hK⟩ := hA
  show Ev D dq mX12_one 0 [some (.ref (82)), none, none, none] [] h 0 0 post
  refine e_aload_n dX12_one_0 rfl ?_
  refine c_V0iR (N := mX12_here) dX12_one_1 lv_X12_181 mo_X12_here hR.cn (Nat.le_of_ble_eq_true rfl) (Nat.le_of_ble_eq_true rfl) (by omega) (s_here D hL hL50 hB hR hF hK) ?_
  refine e_istore_n dX12_one_4 (by decide) ?_
  refine e_iload_n dX12_one_5 rfl ?_
  refine e_bipush (nI (33)) dX12_one_6 (by decide) ?_
  refine e_icmp_eq 17 dX12_one_8 (by decide) (fun hcq8 => ?_) (fun hcq8 => ?_)
  · have hqt := hrP_t (tp := tpR N) (L := L) (s := s) (by rw [hcq8]; decide)
    refine e_aload_n dX12_one_17 rfl ?_
    refine e_aload_n dX12_one_18 rfl ?_
    refine e_get dX12_one_19 fl_X12_219_12 hR.1 rfl ?_
    refine e_top (nI (5)) (hK.2.1) ?_
    refine e_iconst (nI (5)) dX12_one_22 (by decide) ?_
    refine e_icmp_neN 30 dX12_one_23 (by decide) (by omega) (by omega) (fun hcq23 => absurd hcq23 (by decide)) (fun hcq23 => ?_)
    refine e_iconst (nI (1)) dX12_one_26 (by decide) ?_
    refine e_goto 31 dX12_one_27 (by decide) ?_
    refine r_put (upd τ 4 (nI (1))) dX12_one_31 fl_X12_173_12 hR hF rfl (by decide) rfl rfl rfl (fun h hR hF => ?_)
    have hK := hK.p4 (nI (1)) true (by decide)
    obtain ⟨τ, hτq⟩ : ∃ z, z = upd τ 4 (nI (1)) := ⟨_, rfl⟩
    rw [← hτq] at hR hK
    clear hτq
    refine e_aload_n dX12_one_34 rfl ?_
    refine e_get dX12_one_35 fl_X12_173_12 hR.1 rfl ?_
    refine e_top (b2 ((((s).1, true, (s).2.2)).2.1 = true)) (hK.2.2.2.1) ?_
    refine e_if_neB 247 dX12_one_38 (by decide) (fun hcq38 => ?_) (fun hcq38 => absurd rfl hcq38)
    exact e_vret dX12_one_247 rfl (hp _ ⟨c, τ, hR, hF, by first | (rw [onP_0, onB, if_pos hcq8]; exact hK) | (rw [onP_0, onB, if_neg hcq8, if_pos hcq14]; exact hK) | (rw [onP_0, onB, if_neg hcq8, if_neg hcq14, if_neg hcq124, nmP, if_neg hn9]; exact hK) | (rw [onP_0, onB, if_neg hcq8, if_neg hcq14, if_neg hcq124, nmP, if_pos (by rw [show hrP (tpR N) L s = -1 from if_neg (fun zz => by rw [hcq206] at zz; exact absurd zz.1 (by decide))]; exact nmI_m1 u)]; exact hK) | (rw [onP_0, onB, if_neg hcq8, if_neg hcq14, if_neg hcq124, nmP, if_pos (by rcases nmI_4 u (hrP (tpR N) L s) with e9 | e9; exact e9; exact absurd (by rw [show nmV u (hrP (tpR N) L s) = nI (nmI u (hrP (tpR N) L s)) from if_neg (by omega)]; exact nI_pos' (by omega)) hcq210)]; exact hK)⟩)
  · refine e_iload_n dX12_one_11 rfl ?_
    refine e_bipush (nI (40)) dX12_one_12 (by decide) ?_
    refine e_icmp_ne 116 dX12_one_14 (by decide) (fun hcq14 => ?_) (fun hcq14 => ?_)
    · refine e_iload_n dX12_one_116 rfl ?_
      refine e_bipush (nI (48)) dX12_one_117 (by decide) ?_
      refine e_bipush (nI (57)) dX12_one_119 (by decide) ?_
      refine c_S3iR (N := mX12_within) dX12_one_121 ls_X12_76 mo_X12_within  (Nat.le_of_ble_eq_true rfl) (Nat.le_of_ble_eq_true rfl) (by omega) (s_within D ((hrP (tpR N) L (s))) (nI (48)) (nI (57))) ?_
      refine e_if_eqB 187 dX12_one_124 (by decide) (fun hcq124 => ?_) (fun hcq124 => ?_)
      · refine e_iload_n dX12_one_187 rfl ?_
        refine e_if_ge 195 dX12_one_188 (by decide) (fun hcq188 => ?_) (fun hcq188 => ?_)
        · refine e_aload_n dX12_one_195 rfl ?_
          refine e_iload_n dX12_one_196 rfl ?_
          refine c_V1iR (N := mX12_nameOf) dX12_one_197 lv_X12_225 mo_X12_nameOf hR.cn (Nat.le_of_ble_eq_true rfl) (Nat.le_of_ble_eq_true rfl) (by omega) (s_nameOf D hR u hu3 hK.2.2.1 _) ?_
          refine e_istore_n dX12_one_200 (by decide) ?_
          refine e_aload_n dX12_one_201 rfl ?_
          refine e_aload_n dX12_one_202 rfl ?_
          refine e_get dX12_one_203 fl_X12_173_12 hR.1 rfl ?_
          refine e_top (b2 ((s).2.1 = true)) (hK.2.2.2.1) ?_
          refine e_if_neB 213 dX12_one_206 (by decide) (fun hcq206 => ?_) (fun hcq206 => ?_)
          · refine e_iconst (nI (1)) dX12_one_213 (by decide) ?_
            refine e_goto 218 dX12_one_214 (by decide) ?_
            refine r_put (upd τ 4 (nI (1))) dX12_one_218 fl_X12_173_12 hR hF rfl (by decide) rfl rfl rfl (fun h hR hF => ?_)
            have hK := hK.p4 (nI (1)) true (by decide)
            obtain ⟨τ, hτq⟩ : ∃ z, z = upd τ 4 (nI (1)) := ⟨_, rfl⟩
            rw [← hτq] at hR hK
            clear hτq
            refine e_aload_n dX12_one_221 rfl ?_
            refine e_get dX12_one_222 fl_X12_173_12 hR.1 rfl ?_
            refine e_top (b2 ((((s).1, true, (s).2.2)).2.1 = true)) (hK.2.2.2.1) ?_
            refine e_if_neB 247 dX12_one_225 (by decide) (fun hcq225 => ?_) (fun hcq225 => absurd rfl hcq225)
            exact e_vret dX12_one_247 rfl (hp _ ⟨c, τ, hR, hF, by first | (rw [onP_0, onB, if_pos hcq8]; exact hK) | (rw [onP_0, onB, if_neg hcq8, if_pos hcq14]; exact hK) | (rw [onP_0, onB, if_neg hcq8, if_neg hcq14, if_neg hcq124, nmP, if_neg hn9]; exact hK) | (rw [onP_0, onB, if_neg hcq8, if_neg hcq14, if_neg hcq124, nmP, if_pos (by rw [show hrP (tpR N) L s = -1 from if_neg (fun zz => by rw [hcq206] at zz; exact absurd zz.1 (by decide))]; exact nmI_m1 u)]; exact hK) | (rw [onP_0, onB, if_neg hcq8, if_neg hcq14, if_neg hcq124, nmP, if_pos (by rcases nmI_4 u (hrP (tpR N) L s) with e9 | e9; exact e9; exact absurd (by rw [show nmV u (hrP (tpR N) L s) = nI (nmI u (hrP (tpR N) L s)) from if_neg (by omega)]; exact nI_pos' (by omega)) hcq210)]; exact hK)⟩)
          · refine e_iload_n dX12_one_209 rfl ?_
            refine e_if_ge 217 dX12_one_210 (by decide) (fun hcq210 => ?_) (fun hcq210 => ?_)
            · have hn9 : ¬ nmI u (hrP (tpR N) L s) = 9 := fun e9 => by rw [show nmV u (hrP (tpR N) L s) = -1 from if_pos e9] at hcq210; exact absurd hcq210 (by decide)
              refine e_iconst (nI (0)) dX12_one_217 (by decide) ?_
              refine r_put (upd τ 4 (nI (0))) dX12_one_218 fl_X12_173_12 hR hF rfl (by decide) rfl rfl rfl (fun h hR hF => ?_)
              have hK := hK.p4 (nI (0)) false (by decide)
              obtain ⟨τ, hτq⟩ : ∃ z, z = upd τ 4 (nI (0)) := ⟨_, rfl⟩
              rw [← hτq] at hR hK
              clear hτq
              rw [show ((s).1, false, (s).2.2) = s from Prod.ext rfl (Prod.ext (eq_false_of_ne_true hcq206).symm rfl)] at hK
              refine e_aload_n dX12_one_221 rfl ?_
              refine e_get dX12_one_222 fl_X12_173_12 hR.1 rfl ?_
              refine e_top (b2 ((s).2.1 = true)) (hK.2.2.2.1) ?_
              refine e_if_neB 247 dX12_one_225 (by decide) (fun hcq225 => absurd hcq225 hcq206) (fun hcq225 => ?_)
              refine e_aload_n dX12_one_228 rfl ?_
              refine e_sipush (nI (10000)) dX12_one_229 (by decide) ?_
              refine e_iload_n dX12_one_232 rfl ?_
              refine e_iadd dX12_one_233 ?_
              refine e_top (nI (10000 + nmI u (hrP (tpR N) L s))) (by rw [show nmV u (hrP (tpR N) L s) = nI (nmI u (hrP (tpR N) L s)) from if_neg hn9, nI_add]) ?_
              refine c_V1v (nc := 0) (ns := 0) (mc := 0) (ms := 0) (N := mX12_codes) dX12_one_234 lv_X12_193 mo_X12_codes hR.cn (Nat.le_of_ble_eq_true rfl) (Nat.le_of_ble_eq_true rfl) (by omega) (s_codes D hL hL50 hB hR hF hK (10000 + nmI u (hrP (tpR N) L s)) (hB.l60 hL50)) (fun h hP => ?_)
              obtain ⟨c, τ, hR, hF, hK⟩ := hP
              refine e_aload_n dX12_one_237 rfl ?_
              refine e_dup dX12_one_238 rfl ?_
              refine e_get dX12_one_239 fl_X12_177_12 hR.1 rfl ?_
              refine e_top (nI ((cdP (10000 + nmI u (hrP (tpR N) L s)) (s)).1)) (hK.1) ?_
              refine e_iconst (nI (1)) dX12_one_242 (by decide) ?_
              refine e_iaddN dX12_one_243 ?_
              refine r_put (upd τ 1 (nI (((cdP (10000 + nmI u (hrP (tpR N) L s)) (s)).1) + 1))) dX12_one_244 fl_X12_177_12 hR hF rfl (by decide) rfl rfl rfl (fun h hR hF => ?_)
              have hK := hK.p1 (((cdP (10000 + nmI u (hrP (tpR N) L s)) (s)).1) + 1)
              obtain ⟨τ, hτq⟩ : ∃ z, z = upd τ 1 (nI (((cdP (10000 + nmI u (hrP (tpR N) L s)) (s)).1) + 1)) := ⟨_, rfl⟩
              rw [← hτq] at hR hK
              clear hτq
              rw [show (((cdP (10000 + nmI u (hrP (tpR N) L s)) (s)).1) + 1, (cdP (10000 + nmI u (hrP (tpR N) L s)) (s)).2) = adP (cdP (10000 + nmI u (hrP (tpR N) L s)) (s)) from rfl] at hK
              exact e_vret dX12_one_247 rfl (hp _ ⟨c, τ, hR, hF, by first | (rw [onP_0, onB, if_pos hcq8]; exact hK) | (rw [onP_0, onB, if_neg hcq8, if_pos hcq14]; exact hK) | (rw [onP_0, onB, if_neg hcq8, if_neg hcq14, if_neg hcq124, nmP, if_neg hn9]; exact hK) | (rw [onP_0, onB, if_neg hcq8, if_neg hcq14, if_neg hcq124, nmP, if_pos (by rw [show hrP (tpR N) L s = -1 from if_neg (fun zz => by rw [hcq206] at zz; exact absurd zz.1 (by decide))]; exact nmI_m1 u)]; exact hK) | (rw [onP_0, onB, if_neg hcq8, if_neg hcq14, if_neg hcq124, nmP, if_pos (by rcases nmI_4 u (hrP (tpR N) L s) with e9 | e9; exact e9; exact absurd (by rw [show nmV u (hrP (tpR N) L s) = nI (nmI u (hrP (tpR N) L s)) from if_neg (by omega)]; exact nI_pos' (by omega)) hcq210)]; exact hK)⟩)
            · refine e_iconst (nI (1)) dX12_one_213 (by decide) ?_
              refine e_goto 218 dX12_one_214 (by decide) ?_
              refine r_put (upd τ 4 (nI (1))) dX12_one_218 fl_X12_173_12 hR hF rfl (by decide) rfl rfl rfl (fun h hR hF => ?_)
              have hK := hK.p4 (nI (1)) true (by decide)
              obtain ⟨τ, hτq⟩ : ∃ z, z = upd τ 4 (nI (1)) := ⟨_, rfl⟩
              rw [← hτq] at hR hK
              clear hτq
              refine e_aload_n dX12_one_221 rfl ?_
              refine e_get dX12_one_222 fl_X12_173_12 hR.1 rfl ?_
              refine e_top (b2 ((((s).1, true, (s).2.2)).2.1 = true)) (hK.2.2.2.1) ?_
              refine e_if_neB 247 dX12_one_225 (by decide) (fun hcq225 => ?_) (fun hcq225 => absurd rfl hcq225)
              exact e_vret dX12_one_247 rfl (hp _ ⟨c, τ, hR, hF, by first | (rw [onP_0, onB, if_pos hcq8]; exact hK) | (rw [onP_0, onB, if_neg hcq8, if_pos hcq14]; exact hK) | (rw [onP_0, onB, if_neg hcq8, if_neg hcq14, if_neg hcq124, nmP, if_neg hn9]; exact hK) | (rw [onP_0, onB, if_neg hcq8, if_neg hcq14, if_neg hcq124, nmP, if_pos (by rw [show hrP (tpR N) L s = -1 from if_neg (fun zz => by rw [hcq206] at zz; exact absurd zz.1 (by decide))]; exact nmI_m1 u)]; exact hK) | (rw [onP_0, onB, if_neg hcq8, if_neg hcq14, if_neg hcq124, nmP, if_pos (by rcases nmI_4 u (hrP (tpR N) L s) with e9 | e9; exact e9; exact absurd (by rw [show nmV u (hrP (tpR N) L s) = nI (nmI u (hrP (tpR N) L s)) from if_neg (by omega)]; exact nI_pos' (by omega)) hcq210)]; exact hK)⟩)
        · refine e_iconst (((-1))) dX12_one_191 (by decide) ?_
          refine e_goto 200 dX12_one_192 (by decide) ?_
          refine e_top (nmV u (hrP (tpR N) L s)) ((nmV_neg (Int32.not_le.mp hcq188)).symm) ?_
          refine e_istore_n dX12_one_200 (by decide) ?_
          refine e_aload_n dX12_one_201 rfl ?_
          refine e_aload_n dX12_one_202 rfl ?_
          refine e_get dX12_one_203 fl_X12_173_12 hR.1 rfl ?_
          refine e_top (b2 ((s).2.1 = true)) (hK.2.2.2.1) ?_
          refine e_if_neB 213 dX12_one_206 (by decide) (fun hcq206 => ?_) (fun hcq206 => ?_)
          · refine e_iconst (nI (1)) dX12_one_213 (by decide) ?_
            refine e_goto 218 dX12_one_214 (by decide) ?_
            refine r_put (upd τ 4 (nI (1))) dX12_one_218 fl_X12_173_12 hR hF rfl (by decide) rfl rfl rfl (fun h hR hF => ?_)
            have hK := hK.p4 (nI (1)) true (by decide)
            obtain ⟨τ, hτq⟩ : ∃ z, z = upd τ 4 (nI (1)) := ⟨_, rfl⟩
            rw [← hτq] at hR hK
            clear hτq
            refine e_aload_n dX12_one_221 rfl ?_
            refine e_get dX12_one_222 fl_X12_173_12 hR.1 rfl ?_
            refine e_top (b2 ((((s).1, true, (s).2.2)).2.1 = true)) (hK.2.2.2.1) ?_
            refine e_if_neB 247 dX12_one_225 (by decide) (fun hcq225 => ?_) (fun hcq225 => absurd rfl hcq225)
            exact e_vret dX12_one_247 rfl (hp _ ⟨c, τ, hR, hF, by first | (rw [onP_0, onB, if_pos hcq8]; exact hK) | (rw [onP_0, onB, if_neg hcq8, if_pos hcq14]; exact hK) | (rw [onP_0, onB, if_neg hcq8, if_neg hcq14, if_neg hcq124, nmP, if_neg hn9]; exact hK) | (rw [onP_0, onB, if_neg hcq8, if_neg hcq14, if_neg hcq124, nmP, if_pos (by rw [show hrP (tpR N) L s = -1 from if_neg (fun zz => by rw [hcq206] at zz; exact absurd zz.1 (by decide))]; exact nmI_m1 u)]; exact hK) | (rw [onP_0, onB, if_neg hcq8, if_neg hcq14, if_neg hcq124, nmP, if_pos (by rcases nmI_4 u (hrP (tpR N) L s) with e9 | e9; exact e9; exact absurd (by rw [show nmV u (hrP (tpR N) L s) = nI (nmI u (hrP (tpR N) L s)) from if_neg (by omega)]; exact nI_pos' (by omega)) hcq210)]; exact hK)⟩)
          · refine e_iload_n dX12_one_209 rfl ?_
            refine e_if_ge 217 dX12_one_210 (by decide) (fun hcq210 => ?_) (fun hcq210 => ?_)
            · have hn9 : ¬ nmI u (hrP (tpR N) L s) = 9 := fun e9 => by rw [show nmV u (hrP (tpR N) L s) = -1 from if_pos e9] at hcq210; exact absurd hcq210 (by decide)
              refine e_iconst (nI (0)) dX12_one_217 (by decide) ?_
              refine r_put (upd τ 4 (nI (0))) dX12_one_218 fl_X12_173_12 hR hF rfl (by decide) rfl rfl rfl (fun h hR hF => ?_)
              have hK := hK.p4 (nI (0)) false (by decide)
              obtain ⟨τ, hτq⟩ : ∃ z, z = upd τ 4 (nI (0)) := ⟨_, rfl⟩
              rw [← hτq] at hR hK
              clear hτq
              rw [show ((s).1, false, (s).2.2) = s from Prod.ext rfl (Prod.ext (eq_false_of_ne_true hcq206).symm rfl)] at hK
              refine e_aload_n dX12_one_221 rfl ?_
              refine e_get dX12_one_222 fl_X12_173_12 hR.1 rfl ?_
              refine e_top (b2 ((s).2.1 = true)) (hK.2.2.2.1) ?_
              refine e_if_neB 247 dX12_one_225 (by decide) (fun hcq225 => absurd hcq225 hcq206) (fun hcq225 => ?_)
              refine e_aload_n dX12_one_228 rfl ?_
              refine e_sipush (nI (10000)) dX12_one_229 (by decide) ?_
              refine e_iload_n dX12_one_232 rfl ?_
              refine e_iadd dX12_one_233 ?_
              refine e_top (nI (10000 + nmI u (hrP (tpR N) L s))) (by rw [show nmV u (hrP (tpR N) L s) = nI (nmI u (hrP (tpR N) L s)) from if_neg hn9, nI_add]) ?_
              refine c_V1v (nc := 0) (ns := 0) (mc := 0) (ms := 0) (N := mX12_codes) dX12_one_234 lv_X12_193 mo_X12_codes hR.cn (Nat.le_of_ble_eq_true rfl) (Nat.le_of_ble_eq_true rfl) (by omega) (s_codes D hL hL50 hB hR hF hK (10000 + nmI u (hrP (tpR N) L s)) (hB.l60 hL50)) (fun h hP => ?_)
              obtain ⟨c, τ, hR, hF, hK⟩ := hP
              refine e_aload_n dX12_one_237 rfl ?_
              refine e_dup dX12_one_238 rfl ?_
              refine e_get dX12_one_239 fl_X12_177_12 hR.1 rfl ?_
              refine e_top (nI ((cdP (10000 + nmI u (hrP (tpR N) L s)) (s)).1)) (hK.1) ?_
              refine e_iconst (nI (1)) dX12_one_242 (by decide) ?_
              refine e_iaddN dX12_one_243 ?_
              refine r_put (upd τ 1 (nI (((cdP (10000 + nmI u (hrP (tpR N) L s)) (s)).1) + 1))) dX12_one_244 fl_X12_177_12 hR hF rfl (by decide) rfl rfl rfl (fun h hR hF => ?_)
              have hK := hK.p1 (((cdP (10000 + nmI u (hrP (tpR N) L s)) (s)).1) + 1)
              obtain ⟨τ, hτq⟩ : ∃ z, z = upd τ 1 (nI (((cdP (10000 + nmI u (hrP (tpR N) L s)) (s)).1) + 1)) := ⟨_, rfl⟩
              rw [← hτq] at hR hK
              clear hτq
              rw [show (((cdP (10000 + nmI u (hrP (tpR N) L s)) (s)).1) + 1, (cdP (10000 + nmI u (hrP (tpR N) L s)) (s)).2) = adP (cdP (10000 + nmI u (hrP (tpR N) L s)) (s)) from rfl] at hK
              exact e_vret dX12_one_247 rfl (hp _ ⟨c, τ, hR, hF, by first | (rw [onP_0, onB, if_pos hcq8]; exact hK) | (rw [onP_0, onB, if_neg hcq8, if_pos hcq14]; exact hK) | (rw [onP_0, onB, if_neg hcq8, if_neg hcq14, if_neg hcq124, nmP, if_neg hn9]; exact hK) | (rw [onP_0, onB, if_neg hcq8, if_neg hcq14, if_neg hcq124, nmP, if_pos (by rw [show hrP (tpR N) L s = -1 from if_neg (fun zz => by rw [hcq206] at zz; exact absurd zz.1 (by decide))]; exact nmI_m1 u)]; exact hK) | (rw [onP_0, onB, if_neg hcq8, if_neg hcq14, if_neg hcq124, nmP, if_pos (by rcases nmI_4 u (hrP (tpR N) L s) with e9 | e9; exact e9; exact absurd (by rw [show nmV u (hrP (tpR N) L s) = nI (nmI u (hrP (tpR N) L s)) from if_neg (by omega)]; exact nI_pos' (by omega)) hcq210)]; exact hK)⟩)
            · refine e_iconst (nI (1)) dX12_one_213 (by decide) ?_
              refine e_goto 218 dX12_one_214 (by decide) ?_
              refine r_put (upd τ 4 (nI (1))) dX12_one_218 fl_X12_173_12 hR hF rfl (by decide) rfl rfl rfl (fun h hR hF => ?_)
              have hK := hK.p4 (nI (1)) true (by decide)
              obtain ⟨τ, hτq⟩ : ∃ z, z = upd τ 4 (nI (1)) := ⟨_, rfl⟩
              rw [← hτq] at hR hK
              clear hτq
              refine e_aload_n dX12_one_221 rfl ?_
              refine e_get dX12_one_222 fl_X12_173_12 hR.1 rfl ?_
              refine e_top (b2 ((((s).1, true, (s).2.2)).2.1 = true)) (hK.2.2.2.1) ?_
              refine e_if_neB 247 dX12_one_225 (by decide) (fun hcq225 => ?_) (fun hcq225 => absurd rfl hcq225)
              exact e_vret dX12_one_247 rfl (hp _ ⟨c, τ, hR, hF, by first | (rw [onP_0, onB, if_pos hcq8]; exact hK) | (rw [onP_0, onB, if_neg hcq8, if_pos hcq14]; exact hK) | (rw [onP_0, onB, if_neg hcq8, if_neg hcq14, if_neg hcq124, nmP, if_neg hn9]; exact hK) | (rw [onP_0, onB, if_neg hcq8, if_neg hcq14, if_neg hcq124, nmP, if_pos (by rw [show hrP (tpR N) L s = -1 from if_neg (fun zz => by rw [hcq206] at zz; exact absurd zz.1 (by decide))]; exact nmI_m1 u)]; exact hK) | (rw [onP_0, onB, if_neg hcq8, if_neg hcq14, if_neg hcq124, nmP, if_pos (by rcases nmI_4 u (hrP (tpR N) L s) with e9 | e9; exact e9; exact absurd (by rw [show nmV u (hrP (tpR N) L s) = nI (nmI u (hrP (tpR N) L s)) from if_neg (by omega)]; exact nI_pos' (by omega)) hcq210)]; exact hK)⟩)
      · refine e_iconst (nI (0)) dX12_one_127 (by decide) ?_
        refine e_istore_n dX12_one_128 (by decide) ?_
        refine e_iconst (nI (0)) dX12_one_129 (by decide) ?_
        refine e_istore_n dX12_one_130 (by decide) ?_
        exact l_dig D hu3 hL hL50 _ (by omega) 4 h0 h 0 0 s rfl hB ⟨c, τ, hR, hF, hK⟩ (fun h9 z9 => hp h9 (by rw [onP_0, onB, if_neg hcq8, if_neg hcq14, if_pos hcq124]; exact z9))
    · have hqt := hrP_t (tp := tpR N) (L := L) (s := s) (by rw [hcq14]; decide)
      refine e_aload_n dX12_one_17 rfl ?_
      refine e_aload_n dX12_one_18 rfl ?_
      refine e_get dX12_one_19 fl_X12_219_12 hR.1 rfl ?_
      refine e_top (nI (5)) (hK.2.1) ?_
      refine e_iconst (nI (5)) dX12_one_22 (by decide) ?_
      refine e_icmp_neN 30 dX12_one_23 (by decide) (by omega) (by omega) (fun hcq23 => absurd hcq23 (by decide)) (fun hcq23 => ?_)
      refine e_iconst (nI (1)) dX12_one_26 (by decide) ?_
      refine e_goto 31 dX12_one_27 (by decide) ?_
      refine r_put (upd τ 4 (nI (1))) dX12_one_31 fl_X12_173_12 hR hF rfl (by decide) rfl rfl rfl (fun h hR hF => ?_)
      have hK := hK.p4 (nI (1)) true (by decide)
      obtain ⟨τ, hτq⟩ : ∃ z, z = upd τ 4 (nI (1)) := ⟨_, rfl⟩
      rw [← hτq] at hR hK
      clear hτq
      refine e_aload_n dX12_one_34 rfl ?_
      refine e_get dX12_one_35 fl_X12_173_12 hR.1 rfl ?_
      refine e_top (b2 ((((s).1, true, (s).2.2)).2.1 = true)) (hK.2.2.2.1) ?_
      refine e_if_neB 247 dX12_one_38 (by decide) (fun hcq38 => ?_) (fun hcq38 => absurd rfl hcq38)
      exact e_vret dX12_one_247 rfl (hp _ ⟨c, τ, hR, hF, by first | (rw [onP_0, onB, if_pos hcq8]; exact hK) | (rw [onP_0, onB, if_neg hcq8, if_pos hcq14]; exact hK) | (rw [onP_0, onB, if_neg hcq8, if_neg hcq14, if_neg hcq124, nmP, if_neg hn9]; exact hK) | (rw [onP_0, onB, if_neg hcq8, if_neg hcq14, if_neg hcq124, nmP, if_pos (by rw [show hrP (tpR N) L s = -1 from if_neg (fun zz => by rw [hcq206] at zz; exact absurd zz.1 (by decide))]; exact nmI_m1 u)]; exact hK) | (rw [onP_0, onB, if_neg hcq8, if_neg hcq14, if_neg hcq124, nmP, if_pos (by rcases nmI_4 u (hrP (tpR N) L s) with e9 | e9; exact e9; exact absurd (by rw [show nmV u (hrP (tpR N) L s) = nI (nmI u (hrP (tpR N) L s)) from if_neg (by omega)]; exact nI_pos' (by omega)) hcq210)]; exact hK)⟩)
set_option maxRecDepth 20000 in
theorem s_oneS (D : En) {N : Nat → Int32} {σ0 : Nat → Nat → Int32} {τ0 : Nat → Int32} {u op L dq : Nat} (hu3 : u < 3) (hL : N 3 = nI L) (hL50 : L ≤ 50) (hop : op < 5) (q : Nat) (hfo : RD D dq mX12_one N σ0 τ0 u (op + 1) L (onP (tpR N) L u q)) (hfe : RD D (dq + 5) mX12_either N σ0 τ0 u (op + 1) L (eiW (tpR N) L (onP (tpR N) L u q))) (hdq : 5 ≤ dq) : RD D (dq + 6) mX12_one N σ0 τ0 u op L (onP (tpR N) L u (q + 1)) := by
  intro h0 h s hB hA post hp
  have hB1 := hB.1
  obtain ⟨c, τ, hR, hF, hK⟩ := hA
  show Ev D (dq + 6) mX12_one 0 [some (.ref (82)), none, none, none] [] h 0 0 post
  refine e_aload_n dX12_one_0 rfl ?_
  refine c_V0iR (N := mX12_here) dX12_one_1 lv_X12_181 mo_X12_here hR.cn (Nat.le_of_ble_eq_true rfl) (Nat.le_of_ble_eq_true rfl) (by omega) (s_here D hL hL50 hB hR hF hK) ?_
  refine e_istore_n dX12_one_4 (by decide) ?_
  refine e_iload_n dX12_one_5 rfl ?_
  refine e_bipush (nI (33)) dX12_one_6 (by decide) ?_
  refine e_icmp_eq 17 dX12_one_8 (by decide) (fun hcq8 => ?_) (fun hcq8 => ?_)
  · have hqt := hrP_t (tp := tpR N) (L := L) (s := s) (by rw [hcq8]; decide)
    refine e_aload_n dX12_one_17 rfl ?_
    refine e_aload_n dX12_one_18 rfl ?_
    refine e_get dX12_one_19 fl_X12_219_12 hR.1 rfl ?_
    refine e_top (nI (op)) (hK.2.1) ?_
    refine e_iconst (nI (5)) dX12_one_22 (by decide) ?_
    refine e_icmp_neN 30 dX12_one_23 (by decide) (by omega) (by omega) (fun hcq23 => ?_) (fun hcq23 => absurd hcq23 (by omega))
    refine e_iconst (nI (0)) dX12_one_30 (by decide) ?_
    refine r_put (upd τ 4 (nI (0))) dX12_one_31 fl_X12_173_12 hR hF rfl (by decide) rfl rfl rfl (fun h hR hF => ?_)
    have hK := hK.p4 (nI (0)) false (by decide)
    obtain ⟨τ, hτq⟩ : ∃ z, z = upd τ 4 (nI (0)) := ⟨_, rfl⟩
    rw [← hτq] at hR hK
    clear hτq
    rw [show ((s).1, false, (s).2.2) = s from Prod.ext rfl (Prod.ext hqt.1.symm rfl)] at hK
    refine e_aload_n dX12_one_34 rfl ?_
    refine e_get dX12_one_35 fl_X12_173_12 hR.1 rfl ?_
    refine e_top (b2 ((s).2.1 = true)) (hK.2.2.2.1) ?_
    refine e_if_neB 247 dX12_one_38 (by decide) (fun hcq38 => absurd hcq38 (by rw [hqt.1]; decide)) (fun hcq38 => ?_)
    refine e_aload_n dX12_one_41 rfl ?_
    refine e_dup dX12_one_42 rfl ?_
    refine e_get dX12_one_43 fl_X12_219_12 hR.1 rfl ?_
    refine e_top (nI (op)) (hK.2.1) ?_
    refine e_iconst (nI (1)) dX12_one_46 (by decide) ?_
    refine e_iaddN dX12_one_47 ?_
    refine r_put (upd τ 2 (nI (op + 1))) dX12_one_48 fl_X12_219_12 hR hF rfl (by decide) rfl rfl rfl (fun h hR hF => ?_)
    have hK := hK.p2 (op + 1)
    obtain ⟨τ, hτq⟩ : ∃ z, z = upd τ 2 (nI (op + 1)) := ⟨_, rfl⟩
    rw [← hτq] at hR hK
    clear hτq
    refine e_aload_n dX12_one_51 rfl ?_
    refine e_dup dX12_one_52 rfl ?_
    refine e_get dX12_one_53 fl_X12_177_12 hR.1 rfl ?_
    refine e_top (nI ((s).1)) (hK.1) ?_
    refine e_iconst (nI (1)) dX12_one_56 (by decide) ?_
    refine e_iaddN dX12_one_57 ?_
    refine r_put (upd τ 1 (nI (((s).1) + 1))) dX12_one_58 fl_X12_177_12 hR hF rfl (by decide) rfl rfl rfl (fun h hR hF => ?_)
    have hK := hK.p1 (((s).1) + 1)
    obtain ⟨τ, hτq⟩ : ∃ z, z = upd τ 1 (nI (((s).1) + 1)) := ⟨_, rfl⟩
    rw [← hτq] at hR hK
    clear hτq
    rw [show (((s).1) + 1, (s).2) = adP (s) from rfl] at hK
    have hB := hB.adv hqt.2
    have hB1 := hB.1
    refine e_iload_n dX12_one_61 rfl ?_
    refine e_bipush (nI (33)) dX12_one_62 (by decide) ?_
    refine e_icmp_ne 81 dX12_one_64 (by decide) (fun hcq64 => absurd hcq8 hcq64) (fun hcq64 => ?_)
    refine e_aload_n dX12_one_67 rfl ?_
    refine c_V0v (nc := 0) (ns := 0) (mc := 0) (ms := 0) (N := mX12_one) dX12_one_68 lv_X12_206 mo_X12_one hR.cn (Nat.le_of_ble_eq_true rfl) (Nat.le_of_ble_eq_true rfl) (by omega) (hfo _ _ _ hB ⟨c, τ, hR, hF, hK⟩) (fun h hP => ?_)
    obtain ⟨c, τ, hR, hF, hK⟩ := hP
    have hB := hB.gr (GR_on (tpR N) L u q (adP (s)))
    refine e_aload_n dX12_one_71 rfl ?_
    refine e_sipush (nI (20010)) dX12_one_72 (by decide) ?_
    refine c_V1v (nc := 0) (ns := 0) (mc := 0) (ms := 0) (N := mX12_codes) dX12_one_75 lv_X12_193 mo_X12_codes hR.cn (Nat.le_of_ble_eq_true rfl) (Nat.le_of_ble_eq_true rfl) (by omega) (s_codes D hL hL50 hB hR hF hK (20010) (hB.l60 hL50)) (fun h hP => ?_)
    obtain ⟨c, τ, hR, hF, hK⟩ := hP
    refine e_goto 103 dX12_one_78 (by decide) ?_
    refine e_aload_n dX12_one_103 rfl ?_
    refine e_dup dX12_one_104 rfl ?_
    refine e_get dX12_one_105 fl_X12_219_12 hR.1 rfl ?_
    refine e_top (nI (op + 1)) (hK.2.1) ?_
    refine e_iconst (nI (1)) dX12_one_108 (by decide) ?_
    refine e_isubN dX12_one_109 (by omega) ?_
    refine r_put (upd τ 2 (nI ((op + 1) - 1))) dX12_one_110 fl_X12_219_12 hR hF rfl (by decide) rfl rfl rfl (fun h hR hF => ?_)
    have hK := hK.p2 ((op + 1) - 1)
    obtain ⟨τ, hτq⟩ : ∃ z, z = upd τ 2 (nI ((op + 1) - 1)) := ⟨_, rfl⟩
    rw [← hτq] at hR hK
    clear hτq
    refine e_goto 247 dX12_one_113 (by decide) ?_
    exact e_vret dX12_one_247 rfl (hp _ ⟨c, τ, hR, hF, by first | (rw [onP_S, onB, if_pos hcq8]; exact hK) | (rw [onP_S, onB, if_neg hcq8, if_pos hcq14, ← hy]; exact hK) | (rw [onP_S, onB, if_neg hcq8, if_neg hcq14, if_neg hcq124, nmP, if_neg hn9]; exact hK) | (rw [onP_S, onB, if_neg hcq8, if_neg hcq14, if_neg hcq124, nmP, if_pos (by rw [show hrP (tpR N) L s = -1 from if_neg (fun zz => by rw [hcq206] at zz; exact absurd zz.1 (by decide))]; exact nmI_m1 u)]; exact hK) | (rw [onP_S, onB, if_neg hcq8, if_neg hcq14, if_neg hcq124, nmP, if_pos (by rcases nmI_4 u (hrP (tpR N) L s) with e9 | e9; exact e9; exact absurd (by rw [show nmV u (hrP (tpR N) L s) = nI (nmI u (hrP (tpR N) L s)) from if_neg (by omega)]; exact nI_pos' (by omega)) hcq210)]; exact hK)⟩)
  · refine e_iload_n dX12_one_11 rfl ?_
    refine e_bipush (nI (40)) dX12_one_12 (by decide) ?_
    refine e_icmp_ne 116 dX12_one_14 (by decide) (fun hcq14 => ?_) (fun hcq14 => ?_)
    · refine e_iload_n dX12_one_116 rfl ?_
      refine e_bipush (nI (48)) dX12_one_117 (by decide) ?_
      refine e_bipush (nI (57)) dX12_one_119 (by decide) ?_
      refine c_S3iR (N := mX12_within) dX12_one_121 ls_X12_76 mo_X12_within  (Nat.le_of_ble_eq_true rfl) (Nat.le_of_ble_eq_true rfl) (by omega) (s_within D ((hrP (tpR N) L (s))) (nI (48)) (nI (57))) ?_
      refine e_if_eqB 187 dX12_one_124 (by decide) (fun hcq124 => ?_) (fun hcq124 => ?_)
      · refine e_iload_n dX12_one_187 rfl ?_
        refine e_if_ge 195 dX12_one_188 (by decide) (fun hcq188 => ?_) (fun hcq188 => ?_)
        · refine e_aload_n dX12_one_195 rfl ?_
          refine e_iload_n dX12_one_196 rfl ?_
          refine c_V1iR (N := mX12_nameOf) dX12_one_197 lv_X12_225 mo_X12_nameOf hR.cn (Nat.le_of_ble_eq_true rfl) (Nat.le_of_ble_eq_true rfl) (by omega) (s_nameOf D hR u hu3 hK.2.2.1 _) ?_
          refine e_istore_n dX12_one_200 (by decide) ?_
          refine e_aload_n dX12_one_201 rfl ?_
          refine e_aload_n dX12_one_202 rfl ?_
          refine e_get dX12_one_203 fl_X12_173_12 hR.1 rfl ?_
          refine e_top (b2 ((s).2.1 = true)) (hK.2.2.2.1) ?_
          refine e_if_neB 213 dX12_one_206 (by decide) (fun hcq206 => ?_) (fun hcq206 => ?_)
          · refine e_iconst (nI (1)) dX12_one_213 (by decide) ?_
            refine e_goto 218 dX12_one_214 (by decide) ?_
            refine r_put (upd τ 4 (nI (1))) dX12_one_218 fl_X12_173_12 hR hF rfl (by decide) rfl rfl rfl (fun h hR hF => ?_)
            have hK := hK.p4 (nI (1)) true (by decide)
            obtain ⟨τ, hτq⟩ : ∃ z, z = upd τ 4 (nI (1)) := ⟨_, rfl⟩
            rw [← hτq] at hR hK
            clear hτq
            refine e_aload_n dX12_one_221 rfl ?_
            refine e_get dX12_one_222 fl_X12_173_12 hR.1 rfl ?_
            refine e_top (b2 ((((s).1, true, (s).2.2)).2.1 = true)) (hK.2.2.2.1) ?_
            refine e_if_neB 247 dX12_one_225 (by decide) (fun hcq225 => ?_) (fun hcq225 => absurd rfl hcq225)
            exact e_vret dX12_one_247 rfl (hp _ ⟨c, τ, hR, hF, by first | (rw [onP_S, onB, if_pos hcq8]; exact hK) | (rw [onP_S, onB, if_neg hcq8, if_pos hcq14, ← hy]; exact hK) | (rw [onP_S, onB, if_neg hcq8, if_neg hcq14, if_neg hcq124, nmP, if_neg hn9]; exact hK) | (rw [onP_S, onB, if_neg hcq8, if_neg hcq14, if_neg hcq124, nmP, if_pos (by rw [show hrP (tpR N) L s = -1 from if_neg (fun zz => by rw [hcq206] at zz; exact absurd zz.1 (by decide))]; exact nmI_m1 u)]; exact hK) | (rw [onP_S, onB, if_neg hcq8, if_neg hcq14, if_neg hcq124, nmP, if_pos (by rcases nmI_4 u (hrP (tpR N) L s) with e9 | e9; exact e9; exact absurd (by rw [show nmV u (hrP (tpR N) L s) = nI (nmI u (hrP (tpR N) L s)) from if_neg (by omega)]; exact nI_pos' (by omega)) hcq210)]; exact hK)⟩)
          · refine e_iload_n dX12_one_209 rfl ?_
            refine e_if_ge 217 dX12_one_210 (by decide) (fun hcq210 => ?_) (fun hcq210 => ?_)
            · have hn9 : ¬ nmI u (hrP (tpR N) L s) = 9 := fun e9 => by rw [show nmV u (hrP (tpR N) L s) = -1 from if_pos e9] at hcq210; exact absurd hcq210 (by decide)
              refine e_iconst (nI (0)) dX12_one_217 (by decide) ?_
              refine r_put (upd τ 4 (nI (0))) dX12_one_218 fl_X12_173_12 hR hF rfl (by decide) rfl rfl rfl (fun h hR hF => ?_)
              have hK := hK.p4 (nI (0)) false (by decide)
              obtain ⟨τ, hτq⟩ : ∃ z, z = upd τ 4 (nI (0)) := ⟨_, rfl⟩
              rw [← hτq] at hR hK
              clear hτq
              rw [show ((s).1, false, (s).2.2) = s from Prod.ext rfl (Prod.ext (eq_false_of_ne_true hcq206).symm rfl)] at hK
              refine e_aload_n dX12_one_221 rfl ?_
              refine e_get dX12_one_222 fl_X12_173_12 hR.1 rfl ?_
              refine e_top (b2 ((s).2.1 = true)) (hK.2.2.2.1) ?_
              refine e_if_neB 247 dX12_one_225 (by decide) (fun hcq225 => absurd hcq225 hcq206) (fun hcq225 => ?_)
              refine e_aload_n dX12_one_228 rfl ?_
              refine e_sipush (nI (10000)) dX12_one_229 (by decide) ?_
              refine e_iload_n dX12_one_232 rfl ?_
              refine e_iadd dX12_one_233 ?_
              refine e_top (nI (10000 + nmI u (hrP (tpR N) L s))) (by rw [show nmV u (hrP (tpR N) L s) = nI (nmI u (hrP (tpR N) L s)) from if_neg hn9, nI_add]) ?_
              refine c_V1v (nc := 0) (ns := 0) (mc := 0) (ms := 0) (N := mX12_codes) dX12_one_234 lv_X12_193 mo_X12_codes hR.cn (Nat.le_of_ble_eq_true rfl) (Nat.le_of_ble_eq_true rfl) (by omega) (s_codes D hL hL50 hB hR hF hK (10000 + nmI u (hrP (tpR N) L s)) (hB.l60 hL50)) (fun h hP => ?_)
              obtain ⟨c, τ, hR, hF, hK⟩ := hP
              refine e_aload_n dX12_one_237 rfl ?_
              refine e_dup dX12_one_238 rfl ?_
              refine e_get dX12_one_239 fl_X12_177_12 hR.1 rfl ?_
              refine e_top (nI ((cdP (10000 + nmI u (hrP (tpR N) L s)) (s)).1)) (hK.1) ?_
              refine e_iconst (nI (1)) dX12_one_242 (by decide) ?_
              refine e_iaddN dX12_one_243 ?_
              refine r_put (upd τ 1 (nI (((cdP (10000 + nmI u (hrP (tpR N) L s)) (s)).1) + 1))) dX12_one_244 fl_X12_177_12 hR hF rfl (by decide) rfl rfl rfl (fun h hR hF => ?_)
              have hK := hK.p1 (((cdP (10000 + nmI u (hrP (tpR N) L s)) (s)).1) + 1)
              obtain ⟨τ, hτq⟩ : ∃ z, z = upd τ 1 (nI (((cdP (10000 + nmI u (hrP (tpR N) L s)) (s)).1) + 1)) := ⟨_, rfl⟩
              rw [← hτq] at hR hK
              clear hτq
              rw [show (((cdP (10000 + nmI u (hrP (tpR N) L s)) (s)).1) + 1, (cdP (10000 + nmI u (hrP (tpR N) L s)) (s)).2) = adP (cdP (10000 + nmI u (hrP (tpR N) L s)) (s)) from rfl] at hK
              exact e_vret dX12_one_247 rfl (hp _ ⟨c, τ, hR, hF, by first | (rw [onP_S, onB, if_pos hcq8]; exact hK) | (rw [onP_S, onB, if_neg hcq8, if_pos hcq14, ← hy]; exact hK) | (rw [onP_S, onB, if_neg hcq8, if_neg hcq14, if_neg hcq124, nmP, if_neg hn9]; exact hK) | (rw [onP_S, onB, if_neg hcq8, if_neg hcq14, if_neg hcq124, nmP, if_pos (by rw [show hrP (tpR N) L s = -1 from if_neg (fun zz => by rw [hcq206] at zz; exact absurd zz.1 (by decide))]; exact nmI_m1 u)]; exact hK) | (rw [onP_S, onB, if_neg hcq8, if_neg hcq14, if_neg hcq124, nmP, if_pos (by rcases nmI_4 u (hrP (tpR N) L s) with e9 | e9; exact e9; exact absurd (by rw [show nmV u (hrP (tpR N) L s) = nI (nmI u (hrP (tpR N) L s)) from if_neg (by omega)]; exact nI_pos' (by omega)) hcq210)]; exact hK)⟩)
            · refine e_iconst (nI (1)) dX12_one_213 (by decide) ?_
              refine e_goto 218 dX12_one_214 (by decide) ?_
              refine r_put (upd τ 4 (nI (1))) dX12_one_218 fl_X12_173_12 hR hF rfl (by decide) rfl rfl rfl (fun h hR hF => ?_)
              have hK := hK.p4 (nI (1)) true (by decide)
              obtain ⟨τ, hτq⟩ : ∃ z, z = upd τ 4 (nI (1)) := ⟨_, rfl⟩
              rw [← hτq] at hR hK
              clear hτq
              refine e_aload_n dX12_one_221 rfl ?_
              refine e_get dX12_one_222 fl_X12_173_12 hR.1 rfl ?_
              refine e_top (b2 ((((s).1, true, (s).2.2)).2.1 = true)) (hK.2.2.2.1) ?_
              refine e_if_neB 247 dX12_one_225 (by decide) (fun hcq225 => ?_) (fun hcq225 => absurd rfl hcq225)
              exact e_vret dX12_one_247 rfl (hp _ ⟨c, τ, hR, hF, by first | (rw [onP_S, onB, if_pos hcq8]; exact hK) | (rw [onP_S, onB, if_neg hcq8, if_pos hcq14, ← hy]; exact hK) | (rw [onP_S, onB, if_neg hcq8, if_neg hcq14, if_neg hcq124, nmP, if_neg hn9]; exact hK) | (rw [onP_S, onB, if_neg hcq8, if_neg hcq14, if_neg hcq124, nmP, if_pos (by rw [show hrP (tpR N) L s = -1 from if_neg (fun zz => by rw [hcq206] at zz; exact absurd zz.1 (by decide))]; exact nmI_m1 u)]; exact hK) | (rw [onP_S, onB, if_neg hcq8, if_neg hcq14, if_neg hcq124, nmP, if_pos (by rcases nmI_4 u (hrP (tpR N) L s) with e9 | e9; exact e9; exact absurd (by rw [show nmV u (hrP (tpR N) L s) = nI (nmI u (hrP (tpR N) L s)) from if_neg (by omega)]; exact nI_pos' (by omega)) hcq210)]; exact hK)⟩)
        · refine e_iconst (((-1))) dX12_one_191 (by decide) ?_
          refine e_goto 200 dX12_one_192 (by decide) ?_
          refine e_top (nmV u (hrP (tpR N) L s)) ((nmV_neg (Int32.not_le.mp hcq188)).symm) ?_
          refine e_istore_n dX12_one_200 (by decide) ?_
          refine e_aload_n dX12_one_201 rfl ?_
          refine e_aload_n dX12_one_202 rfl ?_
          refine e_get dX12_one_203 fl_X12_173_12 hR.1 rfl ?_
          refine e_top (b2 ((s).2.1 = true)) (hK.2.2.2.1) ?_
          refine e_if_neB 213 dX12_one_206 (by decide) (fun hcq206 => ?_) (fun hcq206 => ?_)
          · refine e_iconst (nI (1)) dX12_one_213 (by decide) ?_
            refine e_goto 218 dX12_one_214 (by decide) ?_
            refine r_put (upd τ 4 (nI (1))) dX12_one_218 fl_X12_173_12 hR hF rfl (by decide) rfl rfl rfl (fun h hR hF => ?_)
            have hK := hK.p4 (nI (1)) true (by decide)
            obtain ⟨τ, hτq⟩ : ∃ z, z = upd τ 4 (nI (1)) := ⟨_, rfl⟩
            rw [← hτq] at hR hK
            clear hτq
            refine e_aload_n dX12_one_221 rfl ?_
            refine e_get dX12_one_222 fl_X12_173_12 hR.1 rfl ?_
            refine e_top (b2 ((((s).1, true, (s).2.2)).2.1 = true)) (hK.2.2.2.1) ?_
            refine e_if_neB 247 dX12_one_225 (by decide) (fun hcq225 => ?_) (fun hcq225 => absurd rfl hcq225)
            exact e_vret dX12_one_247 rfl (hp _ ⟨c, τ, hR, hF, by first | (rw [onP_S, onB, if_pos hcq8]; exact hK) | (rw [onP_S, onB, if_neg hcq8, if_pos hcq14, ← hy]; exact hK) | (rw [onP_S, onB, if_neg hcq8, if_neg hcq14, if_neg hcq124, nmP, if_neg hn9]; exact hK) | (rw [onP_S, onB, if_neg hcq8, if_neg hcq14, if_neg hcq124, nmP, if_pos (by rw [show hrP (tpR N) L s = -1 from if_neg (fun zz => by rw [hcq206] at zz; exact absurd zz.1 (by decide))]; exact nmI_m1 u)]; exact hK) | (rw [onP_S, onB, if_neg hcq8, if_neg hcq14, if_neg hcq124, nmP, if_pos (by rcases nmI_4 u (hrP (tpR N) L s) with e9 | e9; exact e9; exact absurd (by rw [show nmV u (hrP (tpR N) L s) = nI (nmI u (hrP (tpR N) L s)) from if_neg (by omega)]; exact nI_pos' (by omega)) hcq210)]; exact hK)⟩)
          · refine e_iload_n dX12_one_209 rfl ?_
            refine e_if_ge 217 dX12_one_210 (by decide) (fun hcq210 => ?_) (fun hcq210 => ?_)
            · have hn9 : ¬ nmI u (hrP (tpR N) L s) = 9 := fun e9 => by rw [show nmV u (hrP (tpR N) L s) = -1 from if_pos e9] at hcq210; exact absurd hcq210 (by decide)
              refine e_iconst (nI (0)) dX12_one_217 (by decide) ?_
              refine r_put (upd τ 4 (nI (0))) dX12_one_218 fl_X12_173_12 hR hF rfl (by decide) rfl rfl rfl (fun h hR hF => ?_)
              have hK := hK.p4 (nI (0)) false (by decide)
              obtain ⟨τ, hτq⟩ : ∃ z, z = upd τ 4 (nI (0)) := ⟨_, rfl⟩
              rw [← hτq] at hR hK
              clear hτq
              rw [show ((s).1, false, (s).2.2) = s from Prod.ext rfl (Prod.ext (eq_false_of_ne_true hcq206).symm rfl)] at hK
              refine e_aload_n dX12_one_221 rfl ?_
              refine e_get dX12_one_222 fl_X12_173_12 hR.1 rfl ?_
              refine e_top (b2 ((s).2.1 = true)) (hK.2.2.2.1) ?_
              refine e_if_neB 247 dX12_one_225 (by decide) (fun hcq225 => absurd hcq225 hcq206) (fun hcq225 => ?_)
              refine e_aload_n dX12_one_228 rfl ?_
              refine e_sipush (nI (10000)) dX12_one_229 (by decide) ?_
              refine e_iload_n dX12_one_232 rfl ?_
              refine e_iadd dX12_one_233 ?_
              refine e_top (nI (10000 + nmI u (hrP (tpR N) L s))) (by rw [show nmV u (hrP (tpR N) L s) = nI (nmI u (hrP (tpR N) L s)) from if_neg hn9, nI_add]) ?_
              refine c_V1v (nc := 0) (ns := 0) (mc := 0) (ms := 0) (N := mX12_codes) dX12_one_234 lv_X12_193 mo_X12_codes hR.cn (Nat.le_of_ble_eq_true rfl) (Nat.le_of_ble_eq_true rfl) (by omega) (s_codes D hL hL50 hB hR hF hK (10000 + nmI u (hrP (tpR N) L s)) (hB.l60 hL50)) (fun h hP => ?_)
              obtain ⟨c, τ, hR, hF, hK⟩ := hP
              refine e_aload_n dX12_one_237 rfl ?_
              refine e_dup dX12_one_238 rfl ?_
              refine e_get dX12_one_239 fl_X12_177_12 hR.1 rfl ?_
              refine e_top (nI ((cdP (10000 + nmI u (hrP (tpR N) L s)) (s)).1)) (hK.1) ?_
              refine e_iconst (nI (1)) dX12_one_242 (by decide) ?_
              refine e_iaddN dX12_one_243 ?_
              refine r_put (upd τ 1 (nI (((cdP (10000 + nmI u (hrP (tpR N) L s)) (s)).1) + 1))) dX12_one_244 fl_X12_177_12 hR hF rfl (by decide) rfl rfl rfl (fun h hR hF => ?_)
              have hK := hK.p1 (((cdP (10000 + nmI u (hrP (tpR N) L s)) (s)).1) + 1)
              obtain ⟨τ, hτq⟩ : ∃ z, z = upd τ 1 (nI (((cdP (10000 + nmI u (hrP (tpR N) L s)) (s)).1) + 1)) := ⟨_, rfl⟩
              rw [← hτq] at hR hK
              clear hτq
              rw [show (((cdP (10000 + nmI u (hrP (tpR N) L s)) (s)).1) + 1, (cdP (10000 + nmI u (hrP (tpR N) L s)) (s)).2) = adP (cdP (10000 + nmI u (hrP (tpR N) L s)) (s)) from rfl] at hK
              exact e_vret dX12_one_247 rfl (hp _ ⟨c, τ, hR, hF, by first | (rw [onP_S, onB, if_pos hcq8]; exact hK) | (rw [onP_S, onB, if_neg hcq8, if_pos hcq14, ← hy]; exact hK) | (rw [onP_S, onB, if_neg hcq8, if_neg hcq14, if_neg hcq124, nmP, if_neg hn9]; exact hK) | (rw [onP_S, onB, if_neg hcq8, if_neg hcq14, if_neg hcq124, nmP, if_pos (by rw [show hrP (tpR N) L s = -1 from if_neg (fun zz => by rw [hcq206] at zz; exact absurd zz.1 (by decide))]; exact nmI_m1 u)]; exact hK) | (rw [onP_S, onB, if_neg hcq8, if_neg hcq14, if_neg hcq124, nmP, if_pos (by rcases nmI_4 u (hrP (tpR N) L s) with e9 | e9; exact e9; exact absurd (by rw [show nmV u (hrP (tpR N) L s) = nI (nmI u (hrP (tpR N) L s)) from if_neg (by omega)]; exact nI_pos' (by omega)) hcq210)]; exact hK)⟩)
            · refine e_iconst (nI (1)) dX12_one_213 (by decide) ?_
              refine e_goto 218 dX12_one_214 (by decide) ?_
              refine r_put (upd τ 4 (nI (1))) dX12_one_218 fl_X12_173_12 hR hF rfl (by decide) rfl rfl rfl (fun h hR hF => ?_)
              have hK := hK.p4 (nI (1)) true (by decide)
              obtain ⟨τ, hτq⟩ : ∃ z, z = upd τ 4 (nI (1)) := ⟨_, rfl⟩
              rw [← hτq] at hR hK
              clear hτq
              refine e_aload_n dX12_one_221 rfl ?_
              refine e_get dX12_one_222 fl_X12_173_12 hR.1 rfl ?_
              refine e_top (b2 ((((s).1, true, (s).2.2)).2.1 = true)) (hK.2.2.2.1) ?_
              refine e_if_neB 247 dX12_one_225 (by decide) (fun hcq225 => ?_) (fun hcq225 => absurd rfl hcq225)
              exact e_vret dX12_one_247 rfl (hp _ ⟨c, τ, hR, hF, by first | (rw [onP_S, onB, if_pos hcq8]; exact hK) | (rw [onP_S, onB, if_neg hcq8, if_pos hcq14, ← hy]; exact hK) | (rw [onP_S, onB, if_neg hcq8, if_neg hcq14, if_neg hcq124, nmP, if_neg hn9]; exact hK) | (rw [onP_S, onB, if_neg hcq8, if_neg hcq14, if_neg hcq124, nmP, if_pos (by rw [show hrP (tpR N) L s = -1 from if_neg (fun zz => by rw [hcq206] at zz; exact absurd zz.1 (by decide))]; exact nmI_m1 u)]; exact hK) | (rw [onP_S, onB, if_neg hcq8, if_neg hcq14, if_neg hcq124, nmP, if_pos (by rcases nmI_4 u (hrP (tpR N) L s) with e9 | e9; exact e9; exact absurd (by rw [show nmV u (hrP (tpR N) L s) = nI (nmI u (hrP (tpR N) L s)) from if_neg (by omega)]; exact nI_pos' (by omega)) hcq210)]; exact hK)⟩)
      · refine e_iconst (nI (0)) dX12_one_127 (by decide) ?_
        refine e_istore_n dX12_one_128 (by decide) ?_
        refine e_iconst (nI (0)) dX12_one_129 (by decide) ?_
        refine e_istore_n dX12_one_130 (by decide) ?_
        exact l_dig D hu3 hL hL50 _ (by omega) 4 h0 h 0 0 s rfl hB ⟨c, τ, hR, hF, hK⟩ (fun h9 z9 => hp h9 (by rw [onP_S, onB, if_neg hcq8, if_neg hcq14, if_pos hcq124]; exact z9))
    · have hqt := hrP_t (tp := tpR N) (L := L) (s := s) (by rw [hcq14]; decide)
      refine e_aload_n dX12_one_17 rfl ?_
      refine e_aload_n dX12_one_18 rfl ?_
      refine e_get dX12_one_19 fl_X12_219_12 hR.1 rfl ?_
      refine e_top (nI (op)) (hK.2.1) ?_
      refine e_iconst (nI (5)) dX12_one_22 (by decide) ?_
      refine e_icmp_neN 30 dX12_one_23 (by decide) (by omega) (by omega) (fun hcq23 => ?_) (fun hcq23 => absurd hcq23 (by omega))
      refine e_iconst (nI (0)) dX12_one_30 (by decide) ?_
      refine r_put (upd τ 4 (nI (0))) dX12_one_31 fl_X12_173_12 hR hF rfl (by decide) rfl rfl rfl (fun h hR hF => ?_)
      have hK := hK.p4 (nI (0)) false (by decide)
      obtain ⟨τ, hτq⟩ : ∃ z, z = upd τ 4 (nI (0)) := ⟨_, rfl⟩
      rw [← hτq] at hR hK
      clear hτq
      rw [show ((s).1, false, (s).2.2) = s from Prod.ext rfl (Prod.ext hqt.1.symm rfl)] at hK
      refine e_aload_n dX12_one_34 rfl ?_
      refine e_get dX12_one_35 fl_X12_173_12 hR.1 rfl ?_
      refine e_top (b2 ((s).2.1 = true)) (hK.2.2.2.1) ?_
      refine e_if_neB 247 dX12_one_38 (by decide) (fun hcq38 => absurd hcq38 (by rw [hqt.1]; decide)) (fun hcq38 => ?_)
      refine e_aload_n dX12_one_41 rfl ?_
      refine e_dup dX12_one_42 rfl ?_
      refine e_get dX12_one_43 fl_X12_219_12 hR.1 rfl ?_
      refine e_top (nI (op)) (hK.2.1) ?_
      refine e_iconst (nI (1)) dX12_one_46 (by decide) ?_
      refine e_iaddN dX12_one_47 ?_
      refine r_put (upd τ 2 (nI (op + 1))) dX12_one_48 fl_X12_219_12 hR hF rfl (by decide) rfl rfl rfl (fun h hR hF => ?_)
      have hK := hK.p2 (op + 1)
      obtain ⟨τ, hτq⟩ : ∃ z, z = upd τ 2 (nI (op + 1)) := ⟨_, rfl⟩
      rw [← hτq] at hR hK
      clear hτq
      refine e_aload_n dX12_one_51 rfl ?_
      refine e_dup dX12_one_52 rfl ?_
      refine e_get dX12_one_53 fl_X12_177_12 hR.1 rfl ?_
      refine e_top (nI ((s).1)) (hK.1) ?_
      refine e_iconst (nI (1)) dX12_one_56 (by decide) ?_
      refine e_iaddN dX12_one_57 ?_
      refine r_put (upd τ 1 (nI (((s).1) + 1))) dX12_one_58 fl_X12_177_12 hR hF rfl (by decide) rfl rfl rfl (fun h hR hF => ?_)
      have hK := hK.p1 (((s).1) + 1)
      obtain ⟨τ, hτq⟩ : ∃ z, z = upd τ 1 (nI (((s).1) + 1)) := ⟨_, rfl⟩
      rw [← hτq] at hR hK
      clear hτq
      rw [show (((s).1) + 1, (s).2) = adP (s) from rfl] at hK
      have hB := hB.adv hqt.2
      have hB1 := hB.1
      refine e_iload_n dX12_one_61 rfl ?_
      refine e_bipush (nI (33)) dX12_one_62 (by decide) ?_
      refine e_icmp_ne 81 dX12_one_64 (by decide) (fun hcq64 => ?_) (fun hcq64 => absurd hcq64 hcq8)
      refine e_aload_n dX12_one_81 rfl ?_
      refine c_V0v (nc := 0) (ns := 0) (mc := 0) (ms := 0) (N := mX12_either) dX12_one_82 lv_X12_222 mo_X12_either hR.cn (Nat.le_of_ble_eq_true rfl) (Nat.le_of_ble_eq_true rfl) (by omega) (hfe _ _ _ hB ⟨c, τ, hR, hF, hK⟩) (fun h hP => ?_)
      obtain ⟨c, τ, hR, hF, hK⟩ := hP
      have hB := hB.gr (GR_ei (tp := tpR N) (GR_on (tpR N) L u q) (adP (s)))
      obtain ⟨y, hy⟩ : ∃ z, z = eiW (tpR N) L (onP (tpR N) L u q) (adP (s)) := ⟨_, rfl⟩
      rw [← hy] at hK hB
      refine e_aload_n dX12_one_85 rfl ?_
      refine e_aload_n dX12_one_86 rfl ?_
      refine e_bipush (nI (41)) dX12_one_87 (by decide) ?_
      refine c_V1i (nc := 0) (ns := 0) (mc := 0) (ms := 0) (N := mX12_takes) dX12_one_89 lv_X12_190 mo_X12_takes hR.cn (Nat.le_of_ble_eq_true rfl) (Nat.le_of_ble_eq_true rfl) (by omega) (s_takes D hL hL50 hB hR hF hK 41 (by decide)) (fun h hP => ?_)
      obtain ⟨c, τ, hR, hF, hK⟩ := hP
      refine e_if_neB 99 dX12_one_92 (by decide) (fun hcq92 => ?_) (fun hcq92 => ?_)
      · rw [tkP, if_pos hcq92] at hK
        have hqy := hrP_t (tp := tpR N) (L := L) (s := y) (by rw [hcq92]; decide)
        refine e_iconst (nI (0)) dX12_one_99 (by decide) ?_
        refine r_put (upd τ 4 (nI (0))) dX12_one_100 fl_X12_173_12 hR hF rfl (by decide) rfl rfl rfl (fun h hR hF => ?_)
        have hK := hK.p4 (nI (0)) false (by decide)
        obtain ⟨τ, hτq⟩ : ∃ z, z = upd τ 4 (nI (0)) := ⟨_, rfl⟩
        rw [← hτq] at hR hK
        clear hτq
        rw [show ((adP (y)).1, false, (adP (y)).2.2) = clP (tpR N) L (y) from clP_t hcq92 hqy.1] at hK
        refine e_aload_n dX12_one_103 rfl ?_
        refine e_dup dX12_one_104 rfl ?_
        refine e_get dX12_one_105 fl_X12_219_12 hR.1 rfl ?_
        refine e_top (nI (op + 1)) (hK.2.1) ?_
        refine e_iconst (nI (1)) dX12_one_108 (by decide) ?_
        refine e_isubN dX12_one_109 (by omega) ?_
        refine r_put (upd τ 2 (nI ((op + 1) - 1))) dX12_one_110 fl_X12_219_12 hR hF rfl (by decide) rfl rfl rfl (fun h hR hF => ?_)
        have hK := hK.p2 ((op + 1) - 1)
        obtain ⟨τ, hτq⟩ : ∃ z, z = upd τ 2 (nI ((op + 1) - 1)) := ⟨_, rfl⟩
        rw [← hτq] at hR hK
        clear hτq
        refine e_goto 247 dX12_one_113 (by decide) ?_
        exact e_vret dX12_one_247 rfl (hp _ ⟨c, τ, hR, hF, by first | (rw [onP_S, onB, if_pos hcq8]; exact hK) | (rw [onP_S, onB, if_neg hcq8, if_pos hcq14, ← hy]; exact hK) | (rw [onP_S, onB, if_neg hcq8, if_neg hcq14, if_neg hcq124, nmP, if_neg hn9]; exact hK) | (rw [onP_S, onB, if_neg hcq8, if_neg hcq14, if_neg hcq124, nmP, if_pos (by rw [show hrP (tpR N) L s = -1 from if_neg (fun zz => by rw [hcq206] at zz; exact absurd zz.1 (by decide))]; exact nmI_m1 u)]; exact hK) | (rw [onP_S, onB, if_neg hcq8, if_neg hcq14, if_neg hcq124, nmP, if_pos (by rcases nmI_4 u (hrP (tpR N) L s) with e9 | e9; exact e9; exact absurd (by rw [show nmV u (hrP (tpR N) L s) = nI (nmI u (hrP (tpR N) L s)) from if_neg (by omega)]; exact nI_pos' (by omega)) hcq210)]; exact hK)⟩)
      · rw [tkP, if_neg hcq92] at hK
        refine e_iconst (nI (1)) dX12_one_95 (by decide) ?_
        refine e_goto 100 dX12_one_96 (by decide) ?_
        refine r_put (upd τ 4 (nI (1))) dX12_one_100 fl_X12_173_12 hR hF rfl (by decide) rfl rfl rfl (fun h hR hF => ?_)
        have hK := hK.p4 (nI (1)) true (by decide)
        obtain ⟨τ, hτq⟩ : ∃ z, z = upd τ 4 (nI (1)) := ⟨_, rfl⟩
        rw [← hτq] at hR hK
        clear hτq
        rw [show ((y).1, true, (y).2.2) = clP (tpR N) L (y) from clP_f hcq92] at hK
        refine e_aload_n dX12_one_103 rfl ?_
        refine e_dup dX12_one_104 rfl ?_
        refine e_get dX12_one_105 fl_X12_219_12 hR.1 rfl ?_
        refine e_top (nI (op + 1)) (hK.2.1) ?_
        refine e_iconst (nI (1)) dX12_one_108 (by decide) ?_
        refine e_isubN dX12_one_109 (by omega) ?_
        refine r_put (upd τ 2 (nI ((op + 1) - 1))) dX12_one_110 fl_X12_219_12 hR hF rfl (by decide) rfl rfl rfl (fun h hR hF => ?_)
        have hK := hK.p2 ((op + 1) - 1)
        obtain ⟨τ, hτq⟩ : ∃ z, z = upd τ 2 (nI ((op + 1) - 1)) := ⟨_, rfl⟩
        rw [← hτq] at hR hK
        clear hτq
        refine e_goto 247 dX12_one_113 (by decide) ?_
        exact e_vret dX12_one_247 rfl (hp _ ⟨c, τ, hR, hF, by first | (rw [onP_S, onB, if_pos hcq8]; exact hK) | (rw [onP_S, onB, if_neg hcq8, if_pos hcq14, ← hy]; exact hK) | (rw [onP_S, onB, if_neg hcq8, if_neg hcq14, if_neg hcq124, nmP, if_neg hn9]; exact hK) | (rw [onP_S, onB, if_neg hcq8, if_neg hcq14, if_neg hcq124, nmP, if_pos (by rw [show hrP (tpR N) L s = -1 from if_neg (fun zz => by rw [hcq206] at zz; exact absurd zz.1 (by decide))]; exact nmI_m1 u)]; exact hK) | (rw [onP_S, onB, if_neg hcq8, if_neg hcq14, if_neg hcq124, nmP, if_pos (by rcases nmI_4 u (hrP (tpR N) L s) with e9 | e9; exact e9; exact absurd (by rw [show nmV u (hrP (tpR N) L s) = nI (nmI u (hrP (tpR N) L s)) from if_neg (by omega)]; exact nI_pos' (by omega)) hcq210)]; exact hK)⟩)
theorem s_one (D : En) {N : Nat → Int32} {σ0 : Nat → Nat → Int32} {τ0 : Nat → Int32} {u L : Nat} (hu3 : u < 3) (hL : N 3 = nI L) (hL50 : L ≤ 50) (q : Nat) (hq : q ≤ 5) : RD D (10 + 6 * q) mX12_one N σ0 τ0 u (5 - q) L (onP (tpR N) L u q) := by
  induction q with
  | zero => exact s_one0 D hu3 hL hL50 (by decide)
  | succ q ih =>
    have h1 := ih (by omega)
    have e1 : 5 - q = (5 - (q + 1)) + 1 := by omega
    rw [e1] at h1
    exact s_oneS D (dq := 10 + 6 * q) hu3 hL hL50 (by omega) q h1 (s_levels D hL hL50 (GR_on (tpR N) L u q) h1 (by omega)) (by omega)
theorem s_eitherT (D : En) {N : Nat → Int32} {σ0 : Nat → Nat → Int32} {τ0 : Nat → Int32} {u L : Nat} (hu3 : u < 3) (hL : N 3 = nI L) (hL50 : L ≤ 50) : RD D 45 mX12_either N σ0 τ0 u 0 L (eiW (tpR N) L (onP (tpR N) L u 5)) :=
  s_levels D hL hL50 (GR_on (tpR N) L u 5) (s_one D hu3 hL hL50 5 (by decide)) (by decide)
