set_option maxRecDepth 20000 in
theorem s_compared (D : En) {N : Nat → Int32} {σ0 : Nat → Nat → Int32} {τ0 : Nat → Int32} {u op L dq : Nat} (hL : N 3 = nI L) (hL50 : L ≤ 50) {f : PT → PT} (hG : ∀ s, GR L u s (f s)) (hf : RD D dq mX12_sum N σ0 τ0 u op L f) (hdq : 2 ≤ dq) : RD D (dq + 1) mX12_compared N σ0 τ0 u op L (lvP (tpR N) L oCm f 1) := by
  intro h0 h s hB hA post hp
  show Ev D (dq + 1) mX12_compared 0 [some (.ref (82)), none] [] h 0 0 post
  refine e_aload_n dX12_compared_0 rfl ?_
  refine c_V0v (nc := 0) (ns := 0) (mc := 0) (ms := 0) (N := mX12_sum) dX12_compared_1 lv_X12_200 mo_X12_sum hA.cn (Nat.le_of_ble_eq_true rfl) (Nat.le_of_ble_eq_true rfl) (by omega) (hf _ _ _ hB hA) (fun h hP => ?_)
  have hA := hP
  have hB := hB.gr (hG _)
  refine e_aload_n dX12_compared_4 rfl ?_
  refine e_bipush (nI (60)) dX12_compared_5 (by decide) ?_
  obtain ⟨c, τ, hR, hF, hK⟩ := id hA
  refine c_V1i (nc := 0) (ns := 0) (mc := 0) (ms := 0) (N := mX12_takes) dX12_compared_7 lv_X12_190 mo_X12_takes hR.cn (Nat.le_of_ble_eq_true rfl) (Nat.le_of_ble_eq_true rfl) (by omega) (s_takes D hL hL50 hB hR hF hK 60 (by decide)) (fun h hP => ?_)
  have hA := hP
  refine e_if_eqB 19 dX12_compared_10 (by decide) (fun hcq10 => ?_) (fun hcq10 => ?_)
  · rw [tkP, if_neg hcq10] at hA
    refine e_aload_n dX12_compared_19 rfl ?_
    refine e_bipush (nI (61)) dX12_compared_20 (by decide) ?_
    obtain ⟨c, τ, hR, hF, hK⟩ := id hA
    refine c_V1i (nc := 0) (ns := 0) (mc := 0) (ms := 0) (N := mX12_takes) dX12_compared_22 lv_X12_190 mo_X12_takes hR.cn (Nat.le_of_ble_eq_true rfl) (Nat.le_of_ble_eq_true rfl) (by omega) (s_takes D hL hL50 hB hR hF hK 61 (by decide)) (fun h hP => ?_)
    have hA := hP
    refine e_if_eqB 34 dX12_compared_25 (by decide) (fun hcq25 => ?_) (fun hcq25 => ?_)
    · rw [tkP, if_neg hcq25] at hA
      refine e_aload_n dX12_compared_34 rfl ?_
      refine e_bipush (nI (62)) dX12_compared_35 (by decide) ?_
      obtain ⟨c, τ, hR, hF, hK⟩ := id hA
      refine c_V1i (nc := 0) (ns := 0) (mc := 0) (ms := 0) (N := mX12_takes) dX12_compared_37 lv_X12_190 mo_X12_takes hR.cn (Nat.le_of_ble_eq_true rfl) (Nat.le_of_ble_eq_true rfl) (by omega) (s_takes D hL hL50 hB hR hF hK 62 (by decide)) (fun h hP => ?_)
      have hA := hP
      refine e_if_eqB 49 dX12_compared_40 (by decide) (fun hcq40 => ?_) (fun hcq40 => ?_)
      · rw [tkP, if_neg hcq40] at hA
        refine e_iconst (nI (0)) dX12_compared_49 (by decide) ?_
        refine e_istore_n dX12_compared_50 (by decide) ?_
        refine e_iload_n dX12_compared_51 rfl ?_
        refine e_if_leN 64 dX12_compared_52 (by decide) (by omega) (fun hcq52 => ?_) (fun hcq52 => absurd hcq52 (by decide))
        have ez9 : oCm (hrP (tpR N) L (f s)) = 0 := ((if_neg hcq10).trans ((if_neg hcq25).trans (if_neg hcq40)))
        exact e_vret dX12_compared_64 rfl (hp _ (by rw [lvP, lpP, if_pos ez9]; exact hA))
      · rw [tkP, if_pos hcq40] at hA
        have hqt := hrP_t (tp := tpR N) (L := L) (s := f (s)) (by rw [hcq40]; decide)
        have hB0 := hB
        have hB := hB.adv hqt.2
        refine e_sipush (nI (20004)) dX12_compared_43 (by decide) ?_
        refine e_goto 50 dX12_compared_46 (by decide) ?_
        refine e_istore_n dX12_compared_50 (by decide) ?_
        refine e_iload_n dX12_compared_51 rfl ?_
        refine e_if_leN 64 dX12_compared_52 (by decide) (by omega) (fun hcq52 => absurd hcq52 (by decide)) (fun hcq52 => ?_)
        refine e_aload_n dX12_compared_55 rfl ?_
        refine c_V0v (nc := 0) (ns := 0) (mc := 0) (ms := 0) (N := mX12_sum) dX12_compared_56 lv_X12_200 mo_X12_sum hA.cn (Nat.le_of_ble_eq_true rfl) (Nat.le_of_ble_eq_true rfl) (by omega) (hf _ _ _ hB hA) (fun h hP => ?_)
        have hA := hP
        obtain ⟨hB2, hm2, hl60⟩ := hB0.lp (q := 0) hqt.1 (hG (adP (f (s)))) hqt.2
        have hl60 : (f (adP (f (s)))).2.1 = false → (f (adP (f (s)))).2.2.length < 60 := fun zz => by rcases hl60 zz with e9 | e9 <;> omega
        have hB := hB.gr (hG (adP (f (s))))
        refine e_aload_n dX12_compared_59 rfl ?_
        refine e_iload_n dX12_compared_60 rfl ?_
        obtain ⟨c, τ, hR, hF, hK⟩ := id hA
        refine c_V1v (nc := 0) (ns := 0) (mc := 0) (ms := 0) (N := mX12_codes) dX12_compared_61 lv_X12_193 mo_X12_codes hR.cn (Nat.le_of_ble_eq_true rfl) (Nat.le_of_ble_eq_true rfl) (by omega) (s_codes D hL hL50 hB hR hF hK (20004) hl60) (fun h hP => ?_)
        have hA := hP
        have ez9 : oCm (hrP (tpR N) L (f s)) = 20004 := ((if_neg hcq10).trans ((if_neg hcq25).trans (if_pos hcq40)))
        exact e_vret dX12_compared_64 rfl (hp _ (by rw [lvP, lpP, if_neg (by rw [ez9]; decide), ez9, lpP]; exact hA))
    · rw [tkP, if_pos hcq25] at hA
      have hqt := hrP_t (tp := tpR N) (L := L) (s := f (s)) (by rw [hcq25]; decide)
      have hB0 := hB
      have hB := hB.adv hqt.2
      refine e_sipush (nI (20003)) dX12_compared_28 (by decide) ?_
      refine e_goto 50 dX12_compared_31 (by decide) ?_
      refine e_istore_n dX12_compared_50 (by decide) ?_
      refine e_iload_n dX12_compared_51 rfl ?_
      refine e_if_leN 64 dX12_compared_52 (by decide) (by omega) (fun hcq52 => absurd hcq52 (by decide)) (fun hcq52 => ?_)
      refine e_aload_n dX12_compared_55 rfl ?_
      refine c_V0v (nc := 0) (ns := 0) (mc := 0) (ms := 0) (N := mX12_sum) dX12_compared_56 lv_X12_200 mo_X12_sum hA.cn (Nat.le_of_ble_eq_true rfl) (Nat.le_of_ble_eq_true rfl) (by omega) (hf _ _ _ hB hA) (fun h hP => ?_)
      have hA := hP
      obtain ⟨hB2, hm2, hl60⟩ := hB0.lp (q := 0) hqt.1 (hG (adP (f (s)))) hqt.2
      have hl60 : (f (adP (f (s)))).2.1 = false → (f (adP (f (s)))).2.2.length < 60 := fun zz => by rcases hl60 zz with e9 | e9 <;> omega
      have hB := hB.gr (hG (adP (f (s))))
      refine e_aload_n dX12_compared_59 rfl ?_
      refine e_iload_n dX12_compared_60 rfl ?_
      obtain ⟨c, τ, hR, hF, hK⟩ := id hA
      refine c_V1v (nc := 0) (ns := 0) (mc := 0) (ms := 0) (N := mX12_codes) dX12_compared_61 lv_X12_193 mo_X12_codes hR.cn (Nat.le_of_ble_eq_true rfl) (Nat.le_of_ble_eq_true rfl) (by omega) (s_codes D hL hL50 hB hR hF hK (20003) hl60) (fun h hP => ?_)
      have hA := hP
      have ez9 : oCm (hrP (tpR N) L (f s)) = 20003 := ((if_neg hcq10).trans (if_pos hcq25))
      exact e_vret dX12_compared_64 rfl (hp _ (by rw [lvP, lpP, if_neg (by rw [ez9]; decide), ez9, lpP]; exact hA))
  · rw [tkP, if_pos hcq10] at hA
    have hqt := hrP_t (tp := tpR N) (L := L) (s := f (s)) (by rw [hcq10]; decide)
    have hB0 := hB
    have hB := hB.adv hqt.2
    refine e_sipush (nI (20002)) dX12_compared_13 (by decide) ?_
    refine e_goto 50 dX12_compared_16 (by decide) ?_
    refine e_istore_n dX12_compared_50 (by decide) ?_
    refine e_iload_n dX12_compared_51 rfl ?_
    refine e_if_leN 64 dX12_compared_52 (by decide) (by omega) (fun hcq52 => absurd hcq52 (by decide)) (fun hcq52 => ?_)
    refine e_aload_n dX12_compared_55 rfl ?_
    refine c_V0v (nc := 0) (ns := 0) (mc := 0) (ms := 0) (N := mX12_sum) dX12_compared_56 lv_X12_200 mo_X12_sum hA.cn (Nat.le_of_ble_eq_true rfl) (Nat.le_of_ble_eq_true rfl) (by omega) (hf _ _ _ hB hA) (fun h hP => ?_)
    have hA := hP
    obtain ⟨hB2, hm2, hl60⟩ := hB0.lp (q := 0) hqt.1 (hG (adP (f (s)))) hqt.2
    have hl60 : (f (adP (f (s)))).2.1 = false → (f (adP (f (s)))).2.2.length < 60 := fun zz => by rcases hl60 zz with e9 | e9 <;> omega
    have hB := hB.gr (hG (adP (f (s))))
    refine e_aload_n dX12_compared_59 rfl ?_
    refine e_iload_n dX12_compared_60 rfl ?_
    obtain ⟨c, τ, hR, hF, hK⟩ := id hA
    refine c_V1v (nc := 0) (ns := 0) (mc := 0) (ms := 0) (N := mX12_codes) dX12_compared_61 lv_X12_193 mo_X12_codes hR.cn (Nat.le_of_ble_eq_true rfl) (Nat.le_of_ble_eq_true rfl) (by omega) (s_codes D hL hL50 hB hR hF hK (20002) hl60) (fun h hP => ?_)
    have hA := hP
    have ez9 : oCm (hrP (tpR N) L (f s)) = 20002 := (if_pos hcq10)
    exact e_vret dX12_compared_64 rfl (hp _ (by rw [lvP, lpP, if_neg (by rw [ez9]; decide), ez9, lpP]; exact hA))
