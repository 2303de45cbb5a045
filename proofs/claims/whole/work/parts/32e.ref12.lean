set_option maxRecDepth 20000 in
theorem lr_both (D : En) {N : Nat → Int32} {σ0 : Nat → Nat → Int32} {τ0 : Nat → Int32} {u op L dq : Nat} (hL : N 3 = nI L) (hL50 : L ≤ 50) {f : PT → PT} (hG : ∀ s, GR L u s (f s)) (hf : RD D dq mX12_compared N σ0 τ0 u op L f) (hdq : 2 ≤ dq) : ∀ (n : Nat) (h0 h : AH) (s : PT), L ≤ s.1 + n → PB L s → PA h0 h N σ0 τ0 u op s → ∀ {post : Option Value → AH → Prop}, (∀ h', PA h0 h' N σ0 τ0 u op (lpP (tpR N) L oAn f n s) → post none h') → Ev D (dq + 1) mX12_both 4 [some (.ref 82)] [] h 0 0 post := by
  intro n
  induction n with
  | zero =>
    intro h0 h s hm hB hA post hp
    refine e_aload_n dX12_both_4 rfl ?_
    refine e_bipush (nI (38)) dX12_both_5 (by decide) ?_
    obtain ⟨c, τ, hR, hF, hK⟩ := id hA
    refine c_V1i (nc := 0) (ns := 0) (mc := 0) (ms := 0) (N := mX12_takes) dX12_both_7 lv_X12_190 mo_X12_takes hR.cn (Nat.le_of_ble_eq_true rfl) (Nat.le_of_ble_eq_true rfl) (by omega) (s_takes D hL hL50 hB hR hF hK 38 (by decide)) (fun h hP => ?_)
    have hA := hP
    refine e_if_eqB 27 dX12_both_10 (by decide) (fun hcq10 => ?_) (fun hcq10 => absurd (hrP_t (tp := tpR N) (L := L) (s := s) (by rw [hcq10]; decide)).2 (by omega))
    rw [tkP, if_neg hcq10] at hA
    exact e_vret dX12_both_27 rfl (hp _ hA)
  | succ n ih =>
    intro h0 h s hm hB hA post hp
    refine e_aload_n dX12_both_4 rfl ?_
    refine e_bipush (nI (38)) dX12_both_5 (by decide) ?_
    obtain ⟨c, τ, hR, hF, hK⟩ := id hA
    refine c_V1i (nc := 0) (ns := 0) (mc := 0) (ms := 0) (N := mX12_takes) dX12_both_7 lv_X12_190 mo_X12_takes hR.cn (Nat.le_of_ble_eq_true rfl) (Nat.le_of_ble_eq_true rfl) (by omega) (s_takes D hL hL50 hB hR hF hK 38 (by decide)) (fun h hP => ?_)
    have hA := hP
    refine e_if_eqB 27 dX12_both_10 (by decide) (fun hcq10 => ?_) (fun hcq10 => ?_)
    · rw [tkP, if_neg hcq10] at hA
      exact e_vret dX12_both_27 rfl (hp _ (by rw [lpP, if_pos (show oAn (hrP (tpR N) L s) = 0 from if_neg hcq10)]; exact hA))
    · rw [tkP, if_pos hcq10] at hA
      have hqt := hrP_t (tp := tpR N) (L := L) (s := s) (by rw [hcq10]; decide)
      have hB0 := hB
      have hB := hB.adv hqt.2
      refine e_aload_n dX12_both_13 rfl ?_
      refine c_V0v (nc := 0) (ns := 0) (mc := 0) (ms := 0) (N := mX12_compared) dX12_both_14 lv_X12_197 mo_X12_compared hA.cn (Nat.le_of_ble_eq_true rfl) (Nat.le_of_ble_eq_true rfl) (by omega) (hf _ _ _ hB hA) (fun h hP => ?_)
      have hA := hP
      obtain ⟨hB2, hm2, hl60⟩ := hB0.lp (q := 0) hqt.1 (hG (adP (s))) hqt.2
      have hl60 : (f (adP (s))).2.1 = false → (f (adP (s))).2.2.length < 60 := fun zz => by rcases hl60 zz with e9 | e9 <;> omega
      have hB := hB.gr (hG (adP (s)))
      refine e_aload_n dX12_both_17 rfl ?_
      refine e_sipush (nI (20001)) dX12_both_18 (by decide) ?_
      obtain ⟨c, τ, hR, hF, hK⟩ := id hA
      refine c_V1v (nc := 0) (ns := 0) (mc := 0) (ms := 0) (N := mX12_codes) dX12_both_21 lv_X12_193 mo_X12_codes hR.cn (Nat.le_of_ble_eq_true rfl) (Nat.le_of_ble_eq_true rfl) (by omega) (s_codes D hL hL50 hB hR hF hK (20001) hl60) (fun h hP => ?_)
      have hA := hP
      refine e_goto 4 dX12_both_24 (by decide) ?_
      exact ih h0 h _ (by rw [cdP_1]; rw [cdP_1] at hm2; omega) (hB0.lp (q := 20001) hqt.1 (hG _) hqt.2).1 hA (fun h9 z9 => hp h9 (by rw [lpP]; rw [show oAn (hrP (tpR N) L s) = 20001 from if_pos hcq10, if_neg (by decide)]; exact z9))
set_option maxRecDepth 20000 in
theorem s_both (D : En) {N : Nat → Int32} {σ0 : Nat → Nat → Int32} {τ0 : Nat → Int32} {u op L dq : Nat} (hL : N 3 = nI L) (hL50 : L ≤ 50) {f : PT → PT} (hG : ∀ s, GR L u s (f s)) (hf : RD D dq mX12_compared N σ0 τ0 u op L f) (hdq : 2 ≤ dq) : RD D (dq + 1) mX12_both N σ0 τ0 u op L (lvP (tpR N) L oAn f 50) := by
  intro h0 h s hB hA post hp
  show Ev D (dq + 1) mX12_both 0 [some (.ref (82))] [] h 0 0 post
  refine e_aload_n dX12_both_0 rfl ?_
  refine c_V0v (nc := 0) (ns := 0) (mc := 0) (ms := 0) (N := mX12_compared) dX12_both_1 lv_X12_197 mo_X12_compared hA.cn (Nat.le_of_ble_eq_true rfl) (Nat.le_of_ble_eq_true rfl) (by omega) (hf _ _ _ hB hA) (fun h hP => ?_)
  have hA := hP
  have hB := hB.gr (hG _)
  exact lr_both D hL hL50 hG hf hdq 50 h0 h _ (by omega) hB hA (fun h9 z9 => hp h9 z9)
set_option maxRecDepth 20000 in
theorem lr_either (D : En) {N : Nat → Int32} {σ0 : Nat → Nat → Int32} {τ0 : Nat → Int32} {u op L dq : Nat} (hL : N 3 = nI L) (hL50 : L ≤ 50) {f : PT → PT} (hG : ∀ s, GR L u s (f s)) (hf : RD D dq mX12_both N σ0 τ0 u op L f) (hdq : 2 ≤ dq) : ∀ (n : Nat) (h0 h : AH) (s : PT), L ≤ s.1 + n → PB L s → PA h0 h N σ0 τ0 u op s → ∀ {post : Option Value → AH → Prop}, (∀ h', PA h0 h' N σ0 τ0 u op (lpP (tpR N) L oOr f n s) → post none h') → Ev D (dq + 1) mX12_either 4 [some (.ref 82)] [] h 0 0 post := by
  intro n
  induction n with
  | zero =>
    intro h0 h s hm hB hA post hp
    refine e_aload_n dX12_either_4 rfl ?_
    refine e_bipush (nI (124)) dX12_either_5 (by decide) ?_
    obtain ⟨c, τ, hR, hF, hK⟩ := id hA
    refine c_V1i (nc := 0) (ns := 0) (mc := 0) (ms := 0) (N := mX12_takes) dX12_either_7 lv_X12_190 mo_X12_takes hR.cn (Nat.le_of_ble_eq_true rfl) (Nat.le_of_ble_eq_true rfl) (by omega) (s_takes D hL hL50 hB hR hF hK 124 (by decide)) (fun h hP => ?_)
    have hA := hP
    refine e_if_eqB 27 dX12_either_10 (by decide) (fun hcq10 => ?_) (fun hcq10 => absurd (hrP_t (tp := tpR N) (L := L) (s := s) (by rw [hcq10]; decide)).2 (by omega))
    rw [tkP, if_neg hcq10] at hA
    exact e_vret dX12_either_27 rfl (hp _ hA)
  | succ n ih =>
    intro h0 h s hm hB hA post hp
    refine e_aload_n dX12_either_4 rfl ?_
    refine e_bipush (nI (124)) dX12_either_5 (by decide) ?_
    obtain ⟨c, τ, hR, hF, hK⟩ := id hA
    refine c_V1i (nc := 0) (ns := 0) (mc := 0) (ms := 0) (N := mX12_takes) dX12_either_7 lv_X12_190 mo_X12_takes hR.cn (Nat.le_of_ble_eq_true rfl) (Nat.le_of_ble_eq_true rfl) (by omega) (s_takes D hL hL50 hB hR hF hK 124 (by decide)) (fun h hP => ?_)
    have hA := hP
    refine e_if_eqB 27 dX12_either_10 (by decide) (fun hcq10 => ?_) (fun hcq10 => ?_)
    · rw [tkP, if_neg hcq10] at hA
      exact e_vret dX12_either_27 rfl (hp _ (by rw [lpP, if_pos (show oOr (hrP (tpR N) L s) = 0 from if_neg hcq10)]; exact hA))
    · rw [tkP, if_pos hcq10] at hA
      have hqt := hrP_t (tp := tpR N) (L := L) (s := s) (by rw [hcq10]; decide)
      have hB0 := hB
      have hB := hB.adv hqt.2
      refine e_aload_n dX12_either_13 rfl ?_
      refine c_V0v (nc := 0) (ns := 0) (mc := 0) (ms := 0) (N := mX12_both) dX12_either_14 lv_X12_187 mo_X12_both hA.cn (Nat.le_of_ble_eq_true rfl) (Nat.le_of_ble_eq_true rfl) (by omega) (hf _ _ _ hB hA) (fun h hP => ?_)
      have hA := hP
      obtain ⟨hB2, hm2, hl60⟩ := hB0.lp (q := 0) hqt.1 (hG (adP (s))) hqt.2
      have hl60 : (f (adP (s))).2.1 = false → (f (adP (s))).2.2.length < 60 := fun zz => by rcases hl60 zz with e9 | e9 <;> omega
      have hB := hB.gr (hG (adP (s)))
      refine e_aload_n dX12_either_17 rfl ?_
      refine e_sipush (nI (20000)) dX12_either_18 (by decide) ?_
      obtain ⟨c, τ, hR, hF, hK⟩ := id hA
      refine c_V1v (nc := 0) (ns := 0) (mc := 0) (ms := 0) (N := mX12_codes) dX12_either_21 lv_X12_193 mo_X12_codes hR.cn (Nat.le_of_ble_eq_true rfl) (Nat.le_of_ble_eq_true rfl) (by omega) (s_codes D hL hL50 hB hR hF hK (20000) hl60) (fun h hP => ?_)
      have hA := hP
      refine e_goto 4 dX12_either_24 (by decide) ?_
      exact ih h0 h _ (by rw [cdP_1]; rw [cdP_1] at hm2; omega) (hB0.lp (q := 20000) hqt.1 (hG _) hqt.2).1 hA (fun h9 z9 => hp h9 (by rw [lpP]; rw [show oOr (hrP (tpR N) L s) = 20000 from if_pos hcq10, if_neg (by decide)]; exact z9))
set_option maxRecDepth 20000 in
theorem s_either (D : En) {N : Nat → Int32} {σ0 : Nat → Nat → Int32} {τ0 : Nat → Int32} {u op L dq : Nat} (hL : N 3 = nI L) (hL50 : L ≤ 50) {f : PT → PT} (hG : ∀ s, GR L u s (f s)) (hf : RD D dq mX12_both N σ0 τ0 u op L f) (hdq : 2 ≤ dq) : RD D (dq + 1) mX12_either N σ0 τ0 u op L (lvP (tpR N) L oOr f 50) := by
  intro h0 h s hB hA post hp
  show Ev D (dq + 1) mX12_either 0 [some (.ref (82))] [] h 0 0 post
  refine e_aload_n dX12_either_0 rfl ?_
  refine c_V0v (nc := 0) (ns := 0) (mc := 0) (ms := 0) (N := mX12_both) dX12_either_1 lv_X12_187 mo_X12_both hA.cn (Nat.le_of_ble_eq_true rfl) (Nat.le_of_ble_eq_true rfl) (by omega) (hf _ _ _ hB hA) (fun h hP => ?_)
  have hA := hP
  have hB := hB.gr (hG _)
  exact lr_either D hL hL50 hG hf hdq 50 h0 h _ (by omega) hB hA (fun h9 z9 => hp h9 z9)
theorem s_levels (D : En) {N : Nat → Int32} {σ0 : Nat → Nat → Int32} {τ0 : Nat → Int32} {u op L dq : Nat} (hL : N 3 = nI L) (hL50 : L ≤ 50) {f : PT → PT} (hG : ∀ s, GR L u s (f s)) (hf : RD D dq mX12_one N σ0 τ0 u op L f) (hdq : 2 ≤ dq) : RD D (dq + 5) mX12_either N σ0 τ0 u op L (eiW (tpR N) L f) :=
  s_either D hL hL50 (GR_bo hG) (s_both D hL hL50 (GR_cm hG) (s_compared D hL hL50 (GR_su hG) (s_sum D hL hL50 (GR_pr hG) (s_product D hL hL50 hG hf hdq) (by omega)) (by omega)) (by omega)) (by omega)
