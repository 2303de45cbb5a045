set_option maxRecDepth 20000 in
theorem lr_product (D : En) {N : Nat → Int32} {σ0 : Nat → Nat → Int32} {τ0 : Nat → Int32} {u op L dq : Nat} (hL : N 3 = nI L) (hL50 : L ≤ 50) {f : PT → PT} (hG : ∀ s, GR L u s (f s)) (hf : RD D dq mX12_one N σ0 τ0 u op L f) (hdq : 2 ≤ dq) : ∀ (n : Nat) (h0 h : AH) (s : PT), L ≤ s.1 + n → PB L s → PA h0 h N σ0 τ0 u op (if oPr (hrP (tpR N) L s) = 0 then s else adP s) → ∀ {post : Option Value → AH → Prop}, (∀ h', PA h0 h' N σ0 τ0 u op (lpP (tpR N) L oPr f n s) → post none h') → Ev D (dq + 1) mX12_product 51 [some (.ref 82), some (.int (nI (oPr (hrP (tpR N) L s))))] [] h 0 0 post := by
  intro n
  induction n with
  | zero =>
    intro h0 h s hm hB hA post hp
    have hz9 : oPr (hrP (tpR N) L s) = 0 := by
      have e9 : hrP (tpR N) L s = -1 := if_neg (fun zz => absurd zz.2 (by omega))
      rw [e9]; decide
    refine e_iload_n dX12_product_51 rfl ?_
    refine e_if_leN 114 dX12_product_52 (by decide) (by omega) (fun hcq52 => ?_) (fun hcq52 => absurd hcq52 (by omega))
    exact e_vret dX12_product_114 rfl (hp _ (by rw [if_pos hz9] at hA; exact hA))
  | succ n ih =>
    intro h0 h s hm hB hA post hp
    have hl20 := ops_pr (hrP (tpR N) L s)
    refine e_iload_n dX12_product_51 rfl ?_
    refine e_if_leN 114 dX12_product_52 (by decide) (by omega) (fun hcq52 => ?_) (fun hcq52 => ?_)
    · exact e_vret dX12_product_114 rfl (hp _ (by rw [if_pos hcq52] at hA; rw [lpP, if_pos hcq52]; exact hA))
    · rw [if_neg (show ¬ oPr (hrP (tpR N) L s) = 0 by omega)] at hA
      have hqt := hrP_t (tp := tpR N) (L := L) (s := s) (fun e9 => by rw [e9] at hcq52; exact absurd hcq52 (by decide))
      have hB0 := hB
      have hB := hB.adv hqt.2
      refine e_aload_n dX12_product_55 rfl ?_
      refine c_V0v (nc := 0) (ns := 0) (mc := 0) (ms := 0) (N := mX12_one) dX12_product_56 lv_X12_206 mo_X12_one hA.cn (Nat.le_of_ble_eq_true rfl) (Nat.le_of_ble_eq_true rfl) (by omega) (hf _ _ _ hB hA) (fun h hP => ?_)
      have hA := hP
      obtain ⟨hB2, hm2, hl60⟩ := hB0.lp (q := 0) hqt.1 (hG (adP (s))) hqt.2
      have hl60 : (f (adP (s))).2.1 = false → (f (adP (s))).2.2.length < 60 := fun zz => by rcases hl60 zz with e9 | e9 <;> omega
      have hB := hB.gr (hG (adP (s)))
      refine e_aload_n dX12_product_59 rfl ?_
      refine e_iload_n dX12_product_60 rfl ?_
      obtain ⟨c, τ, hR, hF, hK⟩ := id hA
      refine c_V1v (nc := 0) (ns := 0) (mc := 0) (ms := 0) (N := mX12_codes) dX12_product_61 lv_X12_193 mo_X12_codes hR.cn (Nat.le_of_ble_eq_true rfl) (Nat.le_of_ble_eq_true rfl) (by omega) (s_codes D hL hL50 hB hR hF hK (oPr (hrP (tpR N) L s)) hl60) (fun h hP => ?_)
      have hA := hP
      have hBx := (hB0.lp (q := oPr (hrP (tpR N) L s)) hqt.1 (hG _) hqt.2).1
      have hB := hBx
      refine e_aload_n dX12_product_64 rfl ?_
      refine e_bipush (nI (42)) dX12_product_65 (by decide) ?_
      obtain ⟨c, τ, hR, hF, hK⟩ := id hA
      refine c_V1i (nc := 0) (ns := 0) (mc := 0) (ms := 0) (N := mX12_takes) dX12_product_67 lv_X12_190 mo_X12_takes hR.cn (Nat.le_of_ble_eq_true rfl) (Nat.le_of_ble_eq_true rfl) (by omega) (s_takes D hL hL50 hB hR hF hK 42 (by decide)) (fun h hP => ?_)
      have hA := hP
      refine e_if_eqB 79 dX12_product_70 (by decide) (fun hcq70 => ?_) (fun hcq70 => ?_)
      · rw [tkP, if_neg hcq70] at hA
        refine e_aload_n dX12_product_79 rfl ?_
        refine e_bipush (nI (47)) dX12_product_80 (by decide) ?_
        obtain ⟨c, τ, hR, hF, hK⟩ := id hA
        refine c_V1i (nc := 0) (ns := 0) (mc := 0) (ms := 0) (N := mX12_takes) dX12_product_82 lv_X12_190 mo_X12_takes hR.cn (Nat.le_of_ble_eq_true rfl) (Nat.le_of_ble_eq_true rfl) (by omega) (s_takes D hL hL50 hB hR hF hK 47 (by decide)) (fun h hP => ?_)
        have hA := hP
        refine e_if_eqB 94 dX12_product_85 (by decide) (fun hcq85 => ?_) (fun hcq85 => ?_)
        · rw [tkP, if_neg hcq85] at hA
          refine e_aload_n dX12_product_94 rfl ?_
          refine e_bipush (nI (37)) dX12_product_95 (by decide) ?_
          obtain ⟨c, τ, hR, hF, hK⟩ := id hA
          refine c_V1i (nc := 0) (ns := 0) (mc := 0) (ms := 0) (N := mX12_takes) dX12_product_97 lv_X12_190 mo_X12_takes hR.cn (Nat.le_of_ble_eq_true rfl) (Nat.le_of_ble_eq_true rfl) (by omega) (s_takes D hL hL50 hB hR hF hK 37 (by decide)) (fun h hP => ?_)
          have hA := hP
          refine e_if_eqB 109 dX12_product_100 (by decide) (fun hcq100 => ?_) (fun hcq100 => ?_)
          · rw [tkP, if_neg hcq100] at hA
            refine e_iconst (nI (0)) dX12_product_109 (by decide) ?_
            refine e_istore_n dX12_product_110 (by decide) ?_
            refine e_goto 51 dX12_product_111 (by decide) ?_
            have ez9 : oPr (hrP (tpR N) L (cdP (oPr (hrP (tpR N) L s)) (f (adP (s))))) = 0 := ((if_neg hcq70).trans ((if_neg hcq85).trans (if_neg hcq100)))
            have ih9 := ih h0 h (cdP (oPr (hrP (tpR N) L s)) (f (adP (s)))) (by rw [cdP_1]; rw [cdP_1] at hm2; omega) hBx (by rw [ez9]; first | (rw [if_pos rfl]; exact hA) | (rw [if_neg (by decide)]; exact hA)) (fun h9 z9 => hp h9 (by rw [lpP, if_neg (show ¬ oPr (hrP (tpR N) L s) = 0 by omega)]; exact z9))
            rw [ez9] at ih9
            exact ih9
          · rw [tkP, if_pos hcq100] at hA
            have hqt := hrP_t (tp := tpR N) (L := L) (s := cdP (oPr (hrP (tpR N) L s)) (f (adP (s)))) (by rw [hcq100]; decide)
            have hB0 := hB
            have hB := hB.adv hqt.2
            refine e_sipush (nI (20009)) dX12_product_103 (by decide) ?_
            refine e_goto 110 dX12_product_106 (by decide) ?_
            refine e_istore_n dX12_product_110 (by decide) ?_
            refine e_goto 51 dX12_product_111 (by decide) ?_
            have ez9 : oPr (hrP (tpR N) L (cdP (oPr (hrP (tpR N) L s)) (f (adP (s))))) = 20009 := ((if_neg hcq70).trans ((if_neg hcq85).trans (if_pos hcq100)))
            have ih9 := ih h0 h (cdP (oPr (hrP (tpR N) L s)) (f (adP (s)))) (by rw [cdP_1]; rw [cdP_1] at hm2; omega) hBx (by rw [ez9]; first | (rw [if_pos rfl]; exact hA) | (rw [if_neg (by decide)]; exact hA)) (fun h9 z9 => hp h9 (by rw [lpP, if_neg (show ¬ oPr (hrP (tpR N) L s) = 0 by omega)]; exact z9))
            rw [ez9] at ih9
            exact ih9
        · rw [tkP, if_pos hcq85] at hA
          have hqt := hrP_t (tp := tpR N) (L := L) (s := cdP (oPr (hrP (tpR N) L s)) (f (adP (s)))) (by rw [hcq85]; decide)
          have hB0 := hB
          have hB := hB.adv hqt.2
          refine e_sipush (nI (20008)) dX12_product_88 (by decide) ?_
          refine e_goto 110 dX12_product_91 (by decide) ?_
          refine e_istore_n dX12_product_110 (by decide) ?_
          refine e_goto 51 dX12_product_111 (by decide) ?_
          have ez9 : oPr (hrP (tpR N) L (cdP (oPr (hrP (tpR N) L s)) (f (adP (s))))) = 20008 := ((if_neg hcq70).trans (if_pos hcq85))
          have ih9 := ih h0 h (cdP (oPr (hrP (tpR N) L s)) (f (adP (s)))) (by rw [cdP_1]; rw [cdP_1] at hm2; omega) hBx (by rw [ez9]; first | (rw [if_pos rfl]; exact hA) | (rw [if_neg (by decide)]; exact hA)) (fun h9 z9 => hp h9 (by rw [lpP, if_neg (show ¬ oPr (hrP (tpR N) L s) = 0 by omega)]; exact z9))
          rw [ez9] at ih9
          exact ih9
      · rw [tkP, if_pos hcq70] at hA
        have hqt := hrP_t (tp := tpR N) (L := L) (s := cdP (oPr (hrP (tpR N) L s)) (f (adP (s)))) (by rw [hcq70]; decide)
        have hB0 := hB
        have hB := hB.adv hqt.2
        refine e_sipush (nI (20007)) dX12_product_73 (by decide) ?_
        refine e_goto 110 dX12_product_76 (by decide) ?_
        refine e_istore_n dX12_product_110 (by decide) ?_
        refine e_goto 51 dX12_product_111 (by decide) ?_
        have ez9 : oPr (hrP (tpR N) L (cdP (oPr (hrP (tpR N) L s)) (f (adP (s))))) = 20007 := (if_pos hcq70)
        have ih9 := ih h0 h (cdP (oPr (hrP (tpR N) L s)) (f (adP (s)))) (by rw [cdP_1]; rw [cdP_1] at hm2; omega) hBx (by rw [ez9]; first | (rw [if_pos rfl]; exact hA) | (rw [if_neg (by decide)]; exact hA)) (fun h9 z9 => hp h9 (by rw [lpP, if_neg (show ¬ oPr (hrP (tpR N) L s) = 0 by omega)]; exact z9))
        rw [ez9] at ih9
        exact ih9
set_option maxRecDepth 20000 in
theorem s_product (D : En) {N : Nat → Int32} {σ0 : Nat → Nat → Int32} {τ0 : Nat → Int32} {u op L dq : Nat} (hL : N 3 = nI L) (hL50 : L ≤ 50) {f : PT → PT} (hG : ∀ s, GR L u s (f s)) (hf : RD D dq mX12_one N σ0 τ0 u op L f) (hdq : 2 ≤ dq) : RD D (dq + 1) mX12_product N σ0 τ0 u op L (lvP (tpR N) L oPr f 50) := by
  intro h0 h s hB hA post hp
  show Ev D (dq + 1) mX12_product 0 [some (.ref (82)), none] [] h 0 0 post
  refine e_aload_n dX12_product_0 rfl ?_
  refine c_V0v (nc := 0) (ns := 0) (mc := 0) (ms := 0) (N := mX12_one) dX12_product_1 lv_X12_206 mo_X12_one hA.cn (Nat.le_of_ble_eq_true rfl) (Nat.le_of_ble_eq_true rfl) (by omega) (hf _ _ _ hB hA) (fun h hP => ?_)
  have hA := hP
  have hB := hB.gr (hG _)
  have hBx := hB
  refine e_aload_n dX12_product_4 rfl ?_
  refine e_bipush (nI (42)) dX12_product_5 (by decide) ?_
  obtain ⟨c, τ, hR, hF, hK⟩ := id hA
  refine c_V1i (nc := 0) (ns := 0) (mc := 0) (ms := 0) (N := mX12_takes) dX12_product_7 lv_X12_190 mo_X12_takes hR.cn (Nat.le_of_ble_eq_true rfl) (Nat.le_of_ble_eq_true rfl) (by omega) (s_takes D hL hL50 hB hR hF hK 42 (by decide)) (fun h hP => ?_)
  have hA := hP
  refine e_if_eqB 19 dX12_product_10 (by decide) (fun hcq10 => ?_) (fun hcq10 => ?_)
  · rw [tkP, if_neg hcq10] at hA
    refine e_aload_n dX12_product_19 rfl ?_
    refine e_bipush (nI (47)) dX12_product_20 (by decide) ?_
    obtain ⟨c, τ, hR, hF, hK⟩ := id hA
    refine c_V1i (nc := 0) (ns := 0) (mc := 0) (ms := 0) (N := mX12_takes) dX12_product_22 lv_X12_190 mo_X12_takes hR.cn (Nat.le_of_ble_eq_true rfl) (Nat.le_of_ble_eq_true rfl) (by omega) (s_takes D hL hL50 hB hR hF hK 47 (by decide)) (fun h hP => ?_)
    have hA := hP
    refine e_if_eqB 34 dX12_product_25 (by decide) (fun hcq25 => ?_) (fun hcq25 => ?_)
    · rw [tkP, if_neg hcq25] at hA
      refine e_aload_n dX12_product_34 rfl ?_
      refine e_bipush (nI (37)) dX12_product_35 (by decide) ?_
      obtain ⟨c, τ, hR, hF, hK⟩ := id hA
      refine c_V1i (nc := 0) (ns := 0) (mc := 0) (ms := 0) (N := mX12_takes) dX12_product_37 lv_X12_190 mo_X12_takes hR.cn (Nat.le_of_ble_eq_true rfl) (Nat.le_of_ble_eq_true rfl) (by omega) (s_takes D hL hL50 hB hR hF hK 37 (by decide)) (fun h hP => ?_)
      have hA := hP
      refine e_if_eqB 49 dX12_product_40 (by decide) (fun hcq40 => ?_) (fun hcq40 => ?_)
      · rw [tkP, if_neg hcq40] at hA
        refine e_iconst (nI (0)) dX12_product_49 (by decide) ?_
        refine e_istore_n dX12_product_50 (by decide) ?_
        have ez9 : oPr (hrP (tpR N) L (f (s))) = 0 := ((if_neg hcq10).trans ((if_neg hcq25).trans (if_neg hcq40)))
        have ih9 := lr_product D hL hL50 hG hf hdq 50 h0 h (f (s)) (by omega) hBx (by rw [ez9]; first | (rw [if_pos rfl]; exact hA) | (rw [if_neg (by decide)]; exact hA)) (fun h9 z9 => hp h9 z9)
        rw [ez9] at ih9
        exact ih9
      · rw [tkP, if_pos hcq40] at hA
        have hqt := hrP_t (tp := tpR N) (L := L) (s := f (s)) (by rw [hcq40]; decide)
        have hB0 := hB
        have hB := hB.adv hqt.2
        refine e_sipush (nI (20009)) dX12_product_43 (by decide) ?_
        refine e_goto 50 dX12_product_46 (by decide) ?_
        refine e_istore_n dX12_product_50 (by decide) ?_
        have ez9 : oPr (hrP (tpR N) L (f (s))) = 20009 := ((if_neg hcq10).trans ((if_neg hcq25).trans (if_pos hcq40)))
        have ih9 := lr_product D hL hL50 hG hf hdq 50 h0 h (f (s)) (by omega) hBx (by rw [ez9]; first | (rw [if_pos rfl]; exact hA) | (rw [if_neg (by decide)]; exact hA)) (fun h9 z9 => hp h9 z9)
        rw [ez9] at ih9
        exact ih9
    · rw [tkP, if_pos hcq25] at hA
      have hqt := hrP_t (tp := tpR N) (L := L) (s := f (s)) (by rw [hcq25]; decide)
      have hB0 := hB
      have hB := hB.adv hqt.2
      refine e_sipush (nI (20008)) dX12_product_28 (by decide) ?_
      refine e_goto 50 dX12_product_31 (by decide) ?_
      refine e_istore_n dX12_product_50 (by decide) ?_
      have ez9 : oPr (hrP (tpR N) L (f (s))) = 20008 := ((if_neg hcq10).trans (if_pos hcq25))
      have ih9 := lr_product D hL hL50 hG hf hdq 50 h0 h (f (s)) (by omega) hBx (by rw [ez9]; first | (rw [if_pos rfl]; exact hA) | (rw [if_neg (by decide)]; exact hA)) (fun h9 z9 => hp h9 z9)
      rw [ez9] at ih9
      exact ih9
  · rw [tkP, if_pos hcq10] at hA
    have hqt := hrP_t (tp := tpR N) (L := L) (s := f (s)) (by rw [hcq10]; decide)
    have hB0 := hB
    have hB := hB.adv hqt.2
    refine e_sipush (nI (20007)) dX12_product_13 (by decide) ?_
    refine e_goto 50 dX12_product_16 (by decide) ?_
    refine e_istore_n dX12_product_50 (by decide) ?_
    have ez9 : oPr (hrP (tpR N) L (f (s))) = 20007 := (if_pos hcq10)
    have ih9 := lr_product D hL hL50 hG hf hdq 50 h0 h (f (s)) (by omega) hBx (by rw [ez9]; first | (rw [if_pos rfl]; exact hA) | (rw [if_neg (by decide)]; exact hA)) (fun h9 z9 => hp h9 z9)
    rw [ez9] at ih9
    exact ih9
