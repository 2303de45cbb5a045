set_option maxRecDepth 20000 in
theorem lr_sum (D : En) {N : Nat → Int32} {σ0 : Nat → Nat → Int32} {τ0 : Nat → Int32} {u op L dq : Nat} (hL : N 3 = nI L) (hL50 : L ≤ 50) {f : PT → PT} (hG : ∀ s, GR L u s (f s)) (hf : RD D dq mX12_product N σ0 τ0 u op L f) (hdq : 2 ≤ dq) : ∀ (n : Nat) (h0 h : AH) (s : PT), L ≤ s.1 + n → PB L s → PA h0 h N σ0 τ0 u op (if oSu (hrP (tpR N) L s) = 0 then s else adP s) → ∀ {post : Option Value → AH → Prop}, (∀ h', PA h0 h' N σ0 τ0 u op (lpP (tpR N) L oSu f n s) → post none h') → Ev D (dq + 1) mX12_sum 36 [some (.ref 82), some (.int (nI (oSu (hrP (tpR N) L s))))] [] h 0 0 post := by
  intro n
  induction n with
  | zero =>
    intro h0 h s hm hB hA post hp
    have hz9 : oSu (hrP (tpR N) L s) = 0 := by
      have e9 : hrP (tpR N) L s = -1 := if_neg (fun zz => absurd zz.2 (by omega))
      rw [e9]; decide
    refine e_iload_n dX12_sum_36 rfl ?_
    refine e_if_leN 84 dX12_sum_37 (by decide) (by omega) (fun hcq37 => ?_) (fun hcq37 => absurd hcq37 (by omega))
    exact e_vret dX12_sum_84 rfl (hp _ (by rw [if_pos hz9] at hA; exact hA))
  | succ n ih =>
    intro h0 h s hm hB hA post hp
    have hl20 := ops_su (hrP (tpR N) L s)
    refine e_iload_n dX12_sum_36 rfl ?_
    refine e_if_leN 84 dX12_sum_37 (by decide) (by omega) (fun hcq37 => ?_) (fun hcq37 => ?_)
    · exact e_vret dX12_sum_84 rfl (hp _ (by rw [if_pos hcq37] at hA; rw [lpP, if_pos hcq37]; exact hA))
    · rw [if_neg (show ¬ oSu (hrP (tpR N) L s) = 0 by omega)] at hA
      have hqt := hrP_t (tp := tpR N) (L := L) (s := s) (fun e9 => by rw [e9] at hcq37; exact absurd hcq37 (by decide))
      have hB0 := hB
      have hB := hB.adv hqt.2
      refine e_aload_n dX12_sum_40 rfl ?_
      refine c_V0v (nc := 0) (ns := 0) (mc := 0) (ms := 0) (N := mX12_product) dX12_sum_41 lv_X12_203 mo_X12_product hA.cn (Nat.le_of_ble_eq_true rfl) (Nat.le_of_ble_eq_true rfl) (by omega) (hf _ _ _ hB hA) (fun h hP => ?_)
      have hA := hP
      obtain ⟨hB2, hm2, hl60⟩ := hB0.lp (q := 0) hqt.1 (hG (adP (s))) hqt.2
      have hl60 : (f (adP (s))).2.1 = false → (f (adP (s))).2.2.length < 60 := fun zz => by rcases hl60 zz with e9 | e9 <;> omega
      have hB := hB.gr (hG (adP (s)))
      refine e_aload_n dX12_sum_44 rfl ?_
      refine e_iload_n dX12_sum_45 rfl ?_
      obtain ⟨c, τ, hR, hF, hK⟩ := id hA
      refine c_V1v (nc := 0) (ns := 0) (mc := 0) (ms := 0) (N := mX12_codes) dX12_sum_46 lv_X12_193 mo_X12_codes hR.cn (Nat.le_of_ble_eq_true rfl) (Nat.le_of_ble_eq_true rfl) (by omega) (s_codes D hL hL50 hB hR hF hK (oSu (hrP (tpR N) L s)) hl60) (fun h hP => ?_)
      have hA := hP
      have hBx := (hB0.lp (q := oSu (hrP (tpR N) L s)) hqt.1 (hG _) hqt.2).1
      have hB := hBx
      refine e_aload_n dX12_sum_49 rfl ?_
      refine e_bipush (nI (43)) dX12_sum_50 (by decide) ?_
      obtain ⟨c, τ, hR, hF, hK⟩ := id hA
      refine c_V1i (nc := 0) (ns := 0) (mc := 0) (ms := 0) (N := mX12_takes) dX12_sum_52 lv_X12_190 mo_X12_takes hR.cn (Nat.le_of_ble_eq_true rfl) (Nat.le_of_ble_eq_true rfl) (by omega) (s_takes D hL hL50 hB hR hF hK 43 (by decide)) (fun h hP => ?_)
      have hA := hP
      refine e_if_eqB 64 dX12_sum_55 (by decide) (fun hcq55 => ?_) (fun hcq55 => ?_)
      · rw [tkP, if_neg hcq55] at hA
        refine e_aload_n dX12_sum_64 rfl ?_
        refine e_bipush (nI (45)) dX12_sum_65 (by decide) ?_
        obtain ⟨c, τ, hR, hF, hK⟩ := id hA
        refine c_V1i (nc := 0) (ns := 0) (mc := 0) (ms := 0) (N := mX12_takes) dX12_sum_67 lv_X12_190 mo_X12_takes hR.cn (Nat.le_of_ble_eq_true rfl) (Nat.le_of_ble_eq_true rfl) (by omega) (s_takes D hL hL50 hB hR hF hK 45 (by decide)) (fun h hP => ?_)
        have hA := hP
        refine e_if_eqB 79 dX12_sum_70 (by decide) (fun hcq70 => ?_) (fun hcq70 => ?_)
        · rw [tkP, if_neg hcq70] at hA
          refine e_iconst (nI (0)) dX12_sum_79 (by decide) ?_
          refine e_istore_n dX12_sum_80 (by decide) ?_
          refine e_goto 36 dX12_sum_81 (by decide) ?_
          have ez9 : oSu (hrP (tpR N) L (cdP (oSu (hrP (tpR N) L s)) (f (adP (s))))) = 0 := ((if_neg hcq55).trans (if_neg hcq70))
          have ih9 := ih h0 h (cdP (oSu (hrP (tpR N) L s)) (f (adP (s)))) (by rw [cdP_1]; rw [cdP_1] at hm2; omega) hBx (by rw [ez9]; first | (rw [if_pos rfl]; exact hA) | (rw [if_neg (by decide)]; exact hA)) (fun h9 z9 => hp h9 (by rw [lpP, if_neg (show ¬ oSu (hrP (tpR N) L s) = 0 by omega)]; exact z9))
          rw [ez9] at ih9
          exact ih9
        · rw [tkP, if_pos hcq70] at hA
          have hqt := hrP_t (tp := tpR N) (L := L) (s := cdP (oSu (hrP (tpR N) L s)) (f (adP (s)))) (by rw [hcq70]; decide)
          have hB0 := hB
          have hB := hB.adv hqt.2
          refine e_sipush (nI (20006)) dX12_sum_73 (by decide) ?_
          refine e_goto 80 dX12_sum_76 (by decide) ?_
          refine e_istore_n dX12_sum_80 (by decide) ?_
          refine e_goto 36 dX12_sum_81 (by decide) ?_
          have ez9 : oSu (hrP (tpR N) L (cdP (oSu (hrP (tpR N) L s)) (f (adP (s))))) = 20006 := ((if_neg hcq55).trans (if_pos hcq70))
          have ih9 := ih h0 h (cdP (oSu (hrP (tpR N) L s)) (f (adP (s)))) (by rw [cdP_1]; rw [cdP_1] at hm2; omega) hBx (by rw [ez9]; first | (rw [if_pos rfl]; exact hA) | (rw [if_neg (by decide)]; exact hA)) (fun h9 z9 => hp h9 (by rw [lpP, if_neg (show ¬ oSu (hrP (tpR N) L s) = 0 by omega)]; exact z9))
          rw [ez9] at ih9
          exact ih9
      · rw [tkP, if_pos hcq55] at hA
        have hqt := hrP_t (tp := tpR N) (L := L) (s := cdP (oSu (hrP (tpR N) L s)) (f (adP (s)))) (by rw [hcq55]; decide)
        have hB0 := hB
        have hB := hB.adv hqt.2
        refine e_sipush (nI (20005)) dX12_sum_58 (by decide) ?_
        refine e_goto 80 dX12_sum_61 (by decide) ?_
        refine e_istore_n dX12_sum_80 (by decide) ?_
        refine e_goto 36 dX12_sum_81 (by decide) ?_
        have ez9 : oSu (hrP (tpR N) L (cdP (oSu (hrP (tpR N) L s)) (f (adP (s))))) = 20005 := (if_pos hcq55)
        have ih9 := ih h0 h (cdP (oSu (hrP (tpR N) L s)) (f (adP (s)))) (by rw [cdP_1]; rw [cdP_1] at hm2; omega) hBx (by rw [ez9]; first | (rw [if_pos rfl]; exact hA) | (rw [if_neg (by decide)]; exact hA)) (fun h9 z9 => hp h9 (by rw [lpP, if_neg (show ¬ oSu (hrP (tpR N) L s) = 0 by omega)]; exact z9))
        rw [ez9] at ih9
        exact ih9
set_option maxRecDepth 20000 in
theorem s_sum (D : En) {N : Nat → Int32} {σ0 : Nat → Nat → Int32} {τ0 : Nat → Int32} {u op L dq : Nat} (hL : N 3 = nI L) (hL50 : L ≤ 50) {f : PT → PT} (hG : ∀ s, GR L u s (f s)) (hf : RD D dq mX12_product N σ0 τ0 u op L f) (hdq : 2 ≤ dq) : RD D (dq + 1) mX12_sum N σ0 τ0 u op L (lvP (tpR N) L oSu f 50) := by
  intro h0 h s hB hA post hp
  show Ev D (dq + 1) mX12_sum 0 [some (.ref (82)), none] [] h 0 0 post
  refine e_aload_n dX12_sum_0 rfl ?_
  refine c_V0v (nc := 0) (ns := 0) (mc := 0) (ms := 0) (N := mX12_product) dX12_sum_1 lv_X12_203 mo_X12_product hA.cn (Nat.le_of_ble_eq_true rfl) (Nat.le_of_ble_eq_true rfl) (by omega) (hf _ _ _ hB hA) (fun h hP => ?_)
  have hA := hP
  have hB := hB.gr (hG _)
  have hBx := hB
  refine e_aload_n dX12_sum_4 rfl ?_
  refine e_bipush (nI (43)) dX12_sum_5 (by decide) ?_
  obtain ⟨c, τ, hR, hF, hK⟩ := id hA
  refine c_V1i (nc := 0) (ns := 0) (mc := 0) (ms := 0) (N := mX12_takes) dX12_sum_7 lv_X12_190 mo_X12_takes hR.cn (Nat.le_of_ble_eq_true rfl) (Nat.le_of_ble_eq_true rfl) (by omega) (s_takes D hL hL50 hB hR hF hK 43 (by decide)) (fun h hP => ?_)
  have hA := hP
  refine e_if_eqB 19 dX12_sum_10 (by decide) (fun hcq10 => ?_) (fun hcq10 => ?_)
  · rw [tkP, if_neg hcq10] at hA
    refine e_aload_n dX12_sum_19 rfl ?_
    refine e_bipush (nI (45)) dX12_sum_20 (by decide) ?_
    obtain ⟨c, τ, hR, hF, hK⟩ := id hA
    refine c_V1i (nc := 0) (ns := 0) (mc := 0) (ms := 0) (N := mX12_takes) dX12_sum_22 lv_X12_190 mo_X12_takes hR.cn (Nat.le_of_ble_eq_true rfl) (Nat.le_of_ble_eq_true rfl) (by omega) (s_takes D hL hL50 hB hR hF hK 45 (by decide)) (fun h hP => ?_)
    have hA := hP
    refine e_if_eqB 34 dX12_sum_25 (by decide) (fun hcq25 => ?_) (fun hcq25 => ?_)
    · rw [tkP, if_neg hcq25] at hA
      refine e_iconst (nI (0)) dX12_sum_34 (by decide) ?_
      refine e_istore_n dX12_sum_35 (by decide) ?_
      have ez9 : oSu (hrP (tpR N) L (f (s))) = 0 := ((if_neg hcq10).trans (if_neg hcq25))
      have ih9 := lr_sum D hL hL50 hG hf hdq 50 h0 h (f (s)) (by omega) hBx (by rw [ez9]; first | (rw [if_pos rfl]; exact hA) | (rw [if_neg (by decide)]; exact hA)) (fun h9 z9 => hp h9 z9)
      rw [ez9] at ih9
      exact ih9
    · rw [tkP, if_pos hcq25] at hA
      have hqt := hrP_t (tp := tpR N) (L := L) (s := f (s)) (by rw [hcq25]; decide)
      have hB0 := hB
      have hB := hB.adv hqt.2
      refine e_sipush (nI (20006)) dX12_sum_28 (by decide) ?_
      refine e_goto 35 dX12_sum_31 (by decide) ?_
      refine e_istore_n dX12_sum_35 (by decide) ?_
      have ez9 : oSu (hrP (tpR N) L (f (s))) = 20006 := ((if_neg hcq10).trans (if_pos hcq25))
      have ih9 := lr_sum D hL hL50 hG hf hdq 50 h0 h (f (s)) (by omega) hBx (by rw [ez9]; first | (rw [if_pos rfl]; exact hA) | (rw [if_neg (by decide)]; exact hA)) (fun h9 z9 => hp h9 z9)
      rw [ez9] at ih9
      exact ih9
  · rw [tkP, if_pos hcq10] at hA
    have hqt := hrP_t (tp := tpR N) (L := L) (s := f (s)) (by rw [hcq10]; decide)
    have hB0 := hB
    have hB := hB.adv hqt.2
    refine e_sipush (nI (20005)) dX12_sum_13 (by decide) ?_
    refine e_goto 35 dX12_sum_16 (by decide) ?_
    refine e_istore_n dX12_sum_35 (by decide) ?_
    have ez9 : oSu (hrP (tpR N) L (f (s))) = 20005 := (if_pos hcq10)
    have ih9 := lr_sum D hL hL50 hG hf hdq 50 h0 h (f (s)) (by omega) hBx (by rw [ez9]; first | (rw [if_pos rfl]; exact hA) | (rw [if_neg (by decide)]; exact hA)) (fun h9 z9 => hp h9 z9)
    rw [ez9] at ih9
    exact ih9
