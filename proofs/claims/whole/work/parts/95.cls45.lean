theorem s_ix1g (D : En) {h : AH} (hX : XH h) {u : Nat} (hu : u < 3) (b : Nat) (hb : b < 256) : Sp D 3 mJ0_indexOf_0f7a4 [.ref (4 + u), .int (nI b)] h 0 0 (some (.int (nmV u (nI b)))) (fun h' => h' = h) := by
  rcases (show u = 0 ∨ u = 1 ∨ u = 2 by omega) with rfl | rfl | rfl
  · exact s_ix10 D hX b hb
  · exact s_ix11 D hX b hb
  · exact s_ix12 D hX b hb
theorem nm9 {u : Nat} {c : Int32} : ¬ 0 ≤ nmV u c ↔ nmI u c = 9 := by
  unfold nmV
  by_cases e : nmI u c = 9
  · rw [if_pos e]; exact ⟨fun _ => e, fun _ => by decide⟩
  · rw [if_neg e]
    have h4 := (nmI_4 u c).resolve_left e
    exact ⟨fun q => absurd (nI_pos' (by omega)) q, fun q => absurd q e⟩
theorem cd_ad {q : Nat} {y : PT} : cdP q (adP y) = adP (cdP q y) := by
  unfold cdP adP
  by_cases h : y.2.1 = true
  · rw [if_pos h, if_pos h]
  · rw [if_neg h, if_neg h]
theorem st_nI {q : Nat} (h : q < 20000) : nI q = stC q := by unfold stC; rw [if_pos h]
set_option maxRecDepth 20000 in
theorem k_readName (D : En) {h0 : AH} {r u L : Nat} {tp : Nat → Int32} (hX : CT0 h0 r u L tp) {h : AH} {y : PT} (hB : PB L y) (hA : PAc h0 r u h y) : Sp D 4 mX6_readName [.ref r, .int (hrP tp L y)] h 0 0 none (fun h' => PAc h0 r u h' (nmP tp L u y)) := by
  obtain ⟨h97, hu3, hL50, ⟨ft, bt, hTp0, htp⟩, hXH, hby⟩ := id hX
  intro post hp
  show Ev D 4 mX6_readName 0 [some (.ref (r)), some (.int (hrP tp L y)), none] [] h 0 0 post
  refine e_iload_n dX6_readName_0 rfl ?_
  refine e_if_ge 8 dX6_readName_1 (by decide) (fun hcq1 => ?_) (fun hcq1 => ?_)
  · obtain ⟨b, hb, hbe⟩ := hr_b hX y (Int32.not_lt.mpr hcq1)
    refine e_aload_n dX6_readName_8 rfl ?_
    refine e_get dX6_readName_9 fl_X6_37_6 hA.1 rfl ?_
    refine e_iload_n dX6_readName_12 rfl ?_
    refine e_i2c dX6_readName_13 ?_
    refine e_top (nI b) (by rw [hbe]; exact i2c_b b hb) ?_
    refine c_V1iR (N := mJ0_indexOf_0f7a4) dX6_readName_14 lv_X6_102 mo_J0_indexOf_0f7a4 (Or.inr ⟨rfl, show 4 + u < nX by unfold nX; omega, _, (hXH.same (fun x hx => hA.lo h97 (by omega)) u hu3).1⟩) (Nat.le_of_ble_eq_true rfl) (Nat.le_of_ble_eq_true rfl) (by decide) (s_ix1g D (hXH.same (fun x hx => hA.lo h97 (by omega))) hu3 b hb) ?_
    refine e_top ((nmV u (hrP tp L y))) (by rw [hbe]) ?_
    refine e_istore_n dX6_readName_17 (by decide) ?_
    refine e_iload_n dX6_readName_18 rfl ?_
    refine e_if_ge 27 dX6_readName_19 (by decide) (fun hcq19 => ?_) (fun hcq19 => ?_)
    · obtain ⟨hw, hlt⟩ := hrP_t (show ¬ hrP tp L y = -1 from fun z => absurd (z ▸ hcq1) (by decide))
      have hn9 : ¬ nmI u (hrP tp L y) = 9 := fun z => (nm9.mpr z) hcq19
      have hn4 := (nmI_4 u (hrP tp L y)).resolve_left hn9
      refine e_aload_n dX6_readName_27 rfl ?_
      refine e_dup dX6_readName_28 rfl ?_
      refine e_get dX6_readName_29 fl_X6_24_6 hA.1 rfl ?_
      refine e_iconst (nI (1)) dX6_readName_32 (by decide) ?_
      refine e_iaddN dX6_readName_33 ?_
      refine e_put dX6_readName_34 fl_X6_24_6 ft_6 (fun q hq => Or.inl (by cases hq; rfl)) hA.1 (by show _ < 5; decide) rfl rfl ?_
      have hA := hA.adv hw
      have hB0 := hB
      have hB := hB.adv hlt
      refine e_aload_n dX6_readName_37 rfl ?_
      refine e_get dX6_readName_38 fl_X6_14_6 hA.1 rfl ?_
      refine e_sipush (nI (10000)) dX6_readName_41 (by decide) ?_
      refine e_iload_n dX6_readName_44 rfl ?_
      refine e_iadd dX6_readName_45 ?_
      refine e_top (nI (10000 + nmI u (hrP tp L y))) (by rw [show nmV u (hrP tp L y) = nI (nmI u (hrP tp L y)) from if_neg hn9, nI_add]) ?_
      refine c_V1v (nc := 0) (ns := 0) (mc := 0) (ms := 0) (N := mX5_add) dX6_readName_46 lv_X6_73 mo_X5_add hA.cnS (Nat.le_of_ble_eq_true rfl) (Nat.le_of_ble_eq_true rfl) (by decide) (k_cadd D hX hA ((10000 + nmI u (hrP tp L y))) (nI (10000 + nmI u (hrP tp L y))) (st_nI (by omega)) (fun z => by have := hB0.2 z; have : (adP y).2.2.length = y.2.2.length := rfl; omega)) (fun h hP => ?_)
      have hA := hP
      have e8 : nmP tp L u y = cdP (10000 + nmI u (hrP tp L y)) (adP y) := by unfold nmP; rw [if_neg hn9, cd_ad]
      rw [e8] at hp
      exact e_vret dX6_readName_49 rfl (hp _ hA)
    · refine e_aload_n dX6_readName_22 rfl ?_
      refine c_V0v (nc := 0) (ns := 0) (mc := 0) (ms := 0) (N := mX6_fail) dX6_readName_23 lv_X6_48 mo_X6_fail hA.cn (Nat.le_of_ble_eq_true rfl) (Nat.le_of_ble_eq_true rfl) (by decide) (k_fail D hA (by have := hB.1; omega)) (fun h hP => ?_)
      have hA := hP
      have e8 : nmP tp L u y = wrP y := by unfold nmP; rw [if_pos (nm9.mp hcq19)]
      rw [e8] at hp
      exact e_vret dX6_readName_26 rfl (hp _ hA)
  · refine e_iconst (((-1))) dX6_readName_4 (by decide) ?_
    refine e_goto 17 dX6_readName_5 (by decide) ?_
    refine e_top (nmV u (hrP tp L y)) (nmV_neg (Int32.not_le.mp hcq1)).symm ?_
    refine e_istore_n dX6_readName_17 (by decide) ?_
    refine e_iload_n dX6_readName_18 rfl ?_
    refine e_if_ge 27 dX6_readName_19 (by decide) (fun hcq19 => absurd hcq19 (by rw [nmV_neg (Int32.not_le.mp hcq1)]; decide)) (fun hcq19 => ?_)
    refine e_aload_n dX6_readName_22 rfl ?_
    refine c_V0v (nc := 0) (ns := 0) (mc := 0) (ms := 0) (N := mX6_fail) dX6_readName_23 lv_X6_48 mo_X6_fail hA.cn (Nat.le_of_ble_eq_true rfl) (Nat.le_of_ble_eq_true rfl) (by decide) (k_fail D hA (by have := hB.1; omega)) (fun h hP => ?_)
    have hA := hP
    have e8 : nmP tp L u y = wrP y := by unfold nmP; rw [if_pos (nm9.mp hcq19)]
    rw [e8] at hp
    exact e_vret dX6_readName_26 rfl (hp _ hA)
theorem lt31 (x : Int32) : x.toNatClampNeg < 2 ^ 31 := by
  have h3 := x.toInt_lt
  show x.toInt.toNat < _
  omega
set_option maxRecDepth 20000 in
theorem cr_readNumber (D : En) {h0 : AH} {r u L : Nat} {tp : Nat → Int32} (hX : CT0 h0 r u L tp) {post : Option Value → AH → Prop} : ∀ (j k v : Nat) (h : AH) (y : PT), k + j = 4 → v < 10 ^ k → PB L y → (y.2.1 = false → y.2.2.length < 50) → PAc h0 r u h y → (∀ h', PAc h0 r u h' (dgP tp L j v y) → post none h') → Ev D 2 mX6_readNumber 4 [some (.ref (r)), some (.ref (25)), some (.int (nI (v))), some (.int (nI (k)))] [] h 0 0 post := by
  obtain ⟨h97, hu3, hL50, ⟨ft, bt, hTp0, htp⟩, hXH, hby⟩ := id hX
  intro j
  induction j with
  | zero =>
    intro k v h y hm hv hB hl hA hp
    refine e_iload_n dX6_readNumber_4 rfl ?_
    refine e_iconst (nI (4)) dX6_readNumber_5 (by decide) ?_
    refine e_icmp_geN 50 dX6_readNumber_6 (by decide) (by omega) (by omega) (fun hcq6 => ?_) (fun hcq6 => absurd hcq6 (by omega))
    have hv4 : v < 10000 := Nat.lt_of_lt_of_le hv (Nat.pow_le_pow_right (by decide) (show k ≤ 4 by omega))
    refine e_aload_n dX6_readNumber_50 rfl ?_
    refine e_get dX6_readNumber_51 fl_X6_14_6 hA.1 rfl ?_
    refine e_iload_n dX6_readNumber_54 rfl ?_
    refine c_V1v (nc := 0) (ns := 0) (mc := 0) (ms := 0) (N := mX5_add) dX6_readNumber_55 lv_X6_73 mo_X5_add hA.cnS (Nat.le_of_ble_eq_true rfl) (Nat.le_of_ble_eq_true rfl) (by decide) (k_cadd D hX hA (v) (nI (v)) (st_nI (by omega)) hl) (fun h hP => ?_)
    have hA := hP
    exact e_vret dX6_readNumber_58 rfl (hp _ hA)
  | succ j ih =>
    intro k v h y hm hv hB hl hA hp
    refine e_iload_n dX6_readNumber_4 rfl ?_
    refine e_iconst (nI (4)) dX6_readNumber_5 (by decide) ?_
    refine e_icmp_geN 50 dX6_readNumber_6 (by decide) (by omega) (by omega) (fun hcq6 => absurd hcq6 (by omega)) (fun hcq6 => ?_)
    refine e_aload_n dX6_readNumber_9 rfl ?_
    refine e_aload_n dX6_readNumber_10 rfl ?_
    refine c_V1iR (N := mX6_next) dX6_readNumber_11 lv_X6_69 mo_X6_next hA.cn (Nat.le_of_ble_eq_true rfl) (Nat.le_of_ble_eq_true rfl) (by decide) (k_next D hX hB hA) ?_
    refine c_S1iR (N := mX6_isDigit) dX6_readNumber_14 ls_X6_88 mo_X6_isDigit  (Nat.le_of_ble_eq_true rfl) (Nat.le_of_ble_eq_true rfl) (by decide) (k_dig D ((hrP tp L y))) ?_
    refine e_if_eqB 50 dX6_readNumber_17 (by decide) (fun hcq17 => ?_) (fun hcq17 => ?_)
    · have hv4 : v < 10000 := Nat.lt_of_lt_of_le hv (Nat.pow_le_pow_right (by decide) (show k ≤ 4 by omega))
      refine e_aload_n dX6_readNumber_50 rfl ?_
      refine e_get dX6_readNumber_51 fl_X6_14_6 hA.1 rfl ?_
      refine e_iload_n dX6_readNumber_54 rfl ?_
      refine c_V1v (nc := 0) (ns := 0) (mc := 0) (ms := 0) (N := mX5_add) dX6_readNumber_55 lv_X6_73 mo_X5_add hA.cnS (Nat.le_of_ble_eq_true rfl) (Nat.le_of_ble_eq_true rfl) (by decide) (k_cadd D hX hA (v) (nI (v)) (st_nI (by omega)) hl) (fun h hP => ?_)
      have hA := hP
      have e8 : dgP tp L (j + 1) v y = cdP v y := by rw [dgP, if_neg hcq17]
      rw [e8] at hp
      exact e_vret dX6_readNumber_58 rfl (hp _ hA)
    · have hd48 := dig_b hcq17
      have hd57 : (hrP tp L y).toNatClampNeg ≤ 57 := by have z := hcq17.2; rw [dig_n hcq17, nI_leI (lt31 _) (by decide)] at z; exact z
      obtain ⟨hw, hlt⟩ := hrP_t (show ¬ hrP tp L y = -1 from fun z => absurd (z ▸ hcq17.1) (by decide))
      refine e_bipush (nI (10)) dX6_readNumber_20 (by decide) ?_
      refine e_iload_n dX6_readNumber_22 rfl ?_
      refine e_imulN dX6_readNumber_23 ?_
      refine e_aload_n dX6_readNumber_24 rfl ?_
      refine e_aload_n dX6_readNumber_25 rfl ?_
      refine c_V1iR (N := mX6_next) dX6_readNumber_26 lv_X6_69 mo_X6_next hA.cn (Nat.le_of_ble_eq_true rfl) (Nat.le_of_ble_eq_true rfl) (by decide) (k_next D hX hB hA) ?_
      refine e_top (nI ((hrP tp L y).toNatClampNeg)) (dig_n hcq17) ?_
      refine e_iaddN dX6_readNumber_29 ?_
      refine e_bipush (nI (48)) dX6_readNumber_30 (by decide) ?_
      refine e_isubN dX6_readNumber_32 (by omega) ?_
      refine e_istore_n dX6_readNumber_33 (by decide) ?_
      refine e_aload_n dX6_readNumber_34 rfl ?_
      refine e_dup dX6_readNumber_35 rfl ?_
      refine e_get dX6_readNumber_36 fl_X6_24_6 hA.1 rfl ?_
      refine e_iconst (nI (1)) dX6_readNumber_39 (by decide) ?_
      refine e_iaddN dX6_readNumber_40 ?_
      refine e_put dX6_readNumber_41 fl_X6_24_6 ft_6 (fun q hq => Or.inl (by cases hq; rfl)) hA.1 (by show _ < 5; decide) rfl rfl ?_
      have hA := hA.adv hw
      have hB0 := hB
      have hB := hB.adv hlt
      refine e_iincN (k + 1) dX6_readNumber_44 rfl (by decide) (nI_add _ _) ?_
      refine e_goto 4 dX6_readNumber_47 (by decide) ?_
      have e8 : dgP tp L (j + 1) v y = dgP tp L j (10 * v + (hrP tp L y).toNatClampNeg - 48) (adP y) := by rw [dgP, if_pos hcq17]
      rw [e8] at hp
      exact ih (k + 1) _ _ _ (by omega) (by rw [Nat.pow_succ]; omega) hB hl hA hp
set_option maxRecDepth 20000 in
theorem k_readNumber (D : En) {h0 : AH} {r u L : Nat} {tp : Nat → Int32} (hX : CT0 h0 r u L tp) {h : AH} {y : PT} (hB : PB L y) (hA : PAc h0 r u h y) (hl : y.2.1 = false → y.2.2.length < 50) : Sp D 2 mX6_readNumber [.ref r, .ref 25] h 0 0 none (fun h' => PAc h0 r u h' (dgP tp L 4 0 y)) := by
  obtain ⟨h97, hu3, hL50, ⟨ft, bt, hTp0, htp⟩, hXH, hby⟩ := id hX
  intro post hp
  show Ev D 2 mX6_readNumber 0 [some (.ref (r)), some (.ref (25)), none, none] [] h 0 0 post
  refine e_iconst (nI (0)) dX6_readNumber_0 (by decide) ?_
  refine e_istore_n dX6_readNumber_1 (by decide) ?_
  refine e_iconst (nI (0)) dX6_readNumber_2 (by decide) ?_
  refine e_istore_n dX6_readNumber_3 (by decide) ?_
  exact cr_readNumber D hX 4 0 0 _ _ (by omega) (by decide) hB hl hA hp
set_option maxRecDepth 20000 in
theorem k_op33 (D : En) {h0 : AH} {r u L : Nat} {tp : Nat → Int32} (hX : CT0 h0 r u L tp) {dq op : Nat} (hop : op ≤ 5) {f : PT → PT} (hf : RDc D dq mX6_readPart h0 r u L op f) (hG : ∀ y, GR L u y (f y)) (hdq : 1 ≤ dq) {h : AH} {y : PT} (hB : PB L y) (hA : PAc h0 r u h y) (hl : (f y).2.1 = false → (f y).2.2.length < 50) : Sp D (dq + 1) mX6_readOpened [.ref r, .int (nI 33), .ref 25, .int (nI op)] h 0 0 none (fun h' => PAc h0 r u h' (cdP 20010 (f y))) := by
  obtain ⟨h97, hu3, hL50, ⟨ft, bt, hTp0, htp⟩, hXH, hby⟩ := id hX
  intro post hp
  show Ev D (dq + 1) mX6_readOpened 0 [some (.ref (r)), some (.int (nI (33))), some (.ref (25)), some (.int (nI (op)))] [] h 0 0 post
  refine e_iload_n dX6_readOpened_0 rfl ?_
  refine e_bipush (nI (33)) dX6_readOpened_1 (by decide) ?_
  refine e_icmp_neN 22 dX6_readOpened_3 (by decide) (by omega) (by omega) (fun hcq3 => absurd hcq3 (by decide)) (fun hcq3 => ?_)
  refine e_aload_n dX6_readOpened_6 rfl ?_
  refine e_aload_n dX6_readOpened_7 rfl ?_
  refine e_iload_n dX6_readOpened_8 rfl ?_
  refine c_V2v (nc := 0) (ns := 0) (mc := 0) (ms := 0) (N := mX6_readPart) dX6_readOpened_9 lv_X6_85 mo_X6_readPart hA.cn (Nat.le_of_ble_eq_true rfl) (Nat.le_of_ble_eq_true rfl) (by omega) (hf _ _ hB hA) (fun h hP => ?_)
  have hA := hP
  have hB := hB.gr (hG _)
  refine e_aload_n dX6_readOpened_12 rfl ?_
  refine e_get dX6_readOpened_13 fl_X6_14_6 hA.1 rfl ?_
  refine e_bipush (((-33))) dX6_readOpened_16 (by decide) ?_
  refine c_V1v (nc := 0) (ns := 0) (mc := 0) (ms := 0) (N := mX5_add) dX6_readOpened_18 lv_X6_73 mo_X5_add hA.cnS (Nat.le_of_ble_eq_true rfl) (Nat.le_of_ble_eq_true rfl) (by omega) (k_cadd D hX hA (20010) (((-33))) (by decide) hl) (fun h hP => ?_)
  have hA := hP
  exact e_vret dX6_readOpened_21 rfl (hp _ hA)
set_option maxRecDepth 20000 in
theorem k_op40 (D : En) {h0 : AH} {r u L : Nat} {tp : Nat → Int32} (hX : CT0 h0 r u L tp) {dq op : Nat} (hop : op ≤ 5) {f : PT → PT} (hf : RDc D dq mX6_readText h0 r u L op f) (hG : ∀ y, GR L u y (f y)) (hdq : 1 ≤ dq) {h : AH} {y : PT} (hB : PB L y) (hA : PAc h0 r u h y) : Sp D (dq + 1) mX6_readOpened [.ref r, .int (nI 40), .ref 25, .int (nI op)] h 0 0 none (fun h' => PAc h0 r u h' (clP tp L (f y))) := by
  obtain ⟨h97, hu3, hL50, ⟨ft, bt, hTp0, htp⟩, hXH, hby⟩ := id hX
  intro post hp
  show Ev D (dq + 1) mX6_readOpened 0 [some (.ref (r)), some (.int (nI (40))), some (.ref (25)), some (.int (nI (op)))] [] h 0 0 post
  refine e_iload_n dX6_readOpened_0 rfl ?_
  refine e_bipush (nI (33)) dX6_readOpened_1 (by decide) ?_
  refine e_icmp_neN 22 dX6_readOpened_3 (by decide) (by omega) (by omega) (fun hcq3 => ?_) (fun hcq3 => absurd hcq3 (by decide))
  refine e_aload_n dX6_readOpened_22 rfl ?_
  refine e_aload_n dX6_readOpened_23 rfl ?_
  refine e_iload_n dX6_readOpened_24 rfl ?_
  refine c_V2v (nc := 0) (ns := 0) (mc := 0) (ms := 0) (N := mX6_readText) dX6_readOpened_25 lv_X6_41 mo_X6_readText hA.cn (Nat.le_of_ble_eq_true rfl) (Nat.le_of_ble_eq_true rfl) (by omega) (hf _ _ hB hA) (fun h hP => ?_)
  have hA := hP
  have hB := hB.gr (hG _)
  refine e_aload_n dX6_readOpened_28 rfl ?_
  refine e_aload_n dX6_readOpened_29 rfl ?_
  refine c_V1iR (N := mX6_next) dX6_readOpened_30 lv_X6_69 mo_X6_next hA.cn (Nat.le_of_ble_eq_true rfl) (Nat.le_of_ble_eq_true rfl) (by omega) (k_next D hX hB hA) ?_
  refine e_bipush (nI (41)) dX6_readOpened_33 (by decide) ?_
  refine e_icmp_ne 51 dX6_readOpened_35 (by decide) (fun hcq35 => ?_) (fun hcq35 => ?_)
  · refine e_aload_n dX6_readOpened_51 rfl ?_
    refine c_V0v (nc := 0) (ns := 0) (mc := 0) (ms := 0) (N := mX6_fail) dX6_readOpened_52 lv_X6_48 mo_X6_fail hA.cn (Nat.le_of_ble_eq_true rfl) (Nat.le_of_ble_eq_true rfl) (by omega) (k_fail D hA (by have := hB.1; omega)) (fun h hP => ?_)
    have hA := hP
    have e8 : clP tp L (f y) = (wrP (f y)) := by unfold clP; rw [if_neg hcq35]
    rw [e8] at hp
    exact e_vret dX6_readOpened_55 rfl (hp _ hA)
  · obtain ⟨hw, hlt⟩ := hrP_t (show ¬ hrP tp L (f y) = -1 from fun z => absurd (hcq35.symm.trans z) (by decide))
    refine e_aload_n dX6_readOpened_38 rfl ?_
    refine e_dup dX6_readOpened_39 rfl ?_
    refine e_get dX6_readOpened_40 fl_X6_24_6 hA.1 rfl ?_
    refine e_iconst (nI (1)) dX6_readOpened_43 (by decide) ?_
    refine e_iaddN dX6_readOpened_44 ?_
    refine e_put dX6_readOpened_45 fl_X6_24_6 ft_6 (fun q hq => Or.inl (by cases hq; rfl)) hA.1 (by show _ < 5; decide) rfl rfl ?_
    have hA := hA.adv hw
    have hB0 := hB
    have hB := hB.adv hlt
    refine e_goto 55 dX6_readOpened_48 (by decide) ?_
    have e8 : clP tp L (f y) = (adP (f y)) := by unfold clP; rw [if_pos hcq35]
    rw [e8] at hp
    exact e_vret dX6_readOpened_55 rfl (hp _ hA)
theorem nm_33 (u : Nat) : nmI u (nI 33) = 9 := by unfold nmI; (repeat' split) <;> first | rfl | (rename_i e; exact absurd e (by decide))
theorem nm_40 (u : Nat) : nmI u (nI 40) = 9 := by unfold nmI; (repeat' split) <;> first | rfl | (rename_i e; exact absurd e (by decide))
set_option maxRecDepth 20000 in
theorem k_part0 (D : En) {h0 : AH} {r u L : Nat} {tp : Nat → Int32} (hX : CT0 h0 r u L tp) : RDc D 5 mX6_readPart h0 r u L 5 (onP tp L u 0) := by
  obtain ⟨h97, hu3, hL50, ⟨ft, bt, hTp0, htp⟩, hXH, hby⟩ := id hX
  intro h y hB hA post hp
  show Ev D 5 mX6_readPart 0 [some (.ref (r)), some (.ref (25)), some (.int (nI (5))), none] [] h 0 0 post
  refine e_aload_n dX6_readPart_0 rfl ?_
  refine e_aload_n dX6_readPart_1 rfl ?_
  refine c_V1iR (N := mX6_next) dX6_readPart_2 lv_X6_69 mo_X6_next hA.cn (Nat.le_of_ble_eq_true rfl) (Nat.le_of_ble_eq_true rfl) (by decide) (k_next D hX hB hA) ?_
  refine e_istore_n dX6_readPart_5 (by decide) ?_
  refine e_iload_n dX6_readPart_6 rfl ?_
  refine c_S1iR (N := mX6_isDigit) dX6_readPart_7 ls_X6_88 mo_X6_isDigit  (Nat.le_of_ble_eq_true rfl) (Nat.le_of_ble_eq_true rfl) (by decide) (k_dig D ((hrP tp L y))) ?_
  refine e_if_eqB 21 dX6_readPart_10 (by decide) (fun hcq10 => ?_) (fun hcq10 => ?_)
  · refine e_iload_n dX6_readPart_21 rfl ?_
    refine e_bipush (nI (33)) dX6_readPart_22 (by decide) ?_
    refine e_icmp_eq 33 dX6_readPart_24 (by decide) (fun hcq24 => ?_) (fun hcq24 => ?_)
    · refine e_iload_n dX6_readPart_33 rfl ?_
      refine e_iconst (nI (5)) dX6_readPart_34 (by decide) ?_
      refine e_icmp_geN 60 dX6_readPart_35 (by decide) (by omega) (by omega) (fun hcq35 => ?_) (fun hcq35 => absurd hcq35 (by decide))
      refine e_aload_n dX6_readPart_60 rfl ?_
      refine e_iload_n dX6_readPart_61 rfl ?_
      refine c_V1v (nc := 0) (ns := 0) (mc := 0) (ms := 0) (N := mX6_readName) dX6_readPart_62 lv_X6_99 mo_X6_readName hA.cn (Nat.le_of_ble_eq_true rfl) (Nat.le_of_ble_eq_true rfl) (by decide) (k_readName D hX hB hA) (fun h hP => ?_)
      have hA := hP
      have e8 : onP tp L u 0 y = nmP tp L u y := by rw [onP_0, onB, if_pos hcq24, nmP, if_pos (by rw [hcq24]; exact nm_33 u)]
      rw [e8] at hp
      exact e_vret dX6_readPart_65 rfl (hp _ hA)
    · refine e_iload_n dX6_readPart_27 rfl ?_
      refine e_bipush (nI (40)) dX6_readPart_28 (by decide) ?_
      refine e_icmp_ne 60 dX6_readPart_30 (by decide) (fun hcq30 => ?_) (fun hcq30 => ?_)
      · refine e_aload_n dX6_readPart_60 rfl ?_
        refine e_iload_n dX6_readPart_61 rfl ?_
        refine c_V1v (nc := 0) (ns := 0) (mc := 0) (ms := 0) (N := mX6_readName) dX6_readPart_62 lv_X6_99 mo_X6_readName hA.cn (Nat.le_of_ble_eq_true rfl) (Nat.le_of_ble_eq_true rfl) (by decide) (k_readName D hX hB hA) (fun h hP => ?_)
        have hA := hP
        have e8 : onP tp L u 0 y = (nmP tp L u y) := by rw [onP_0, onB, if_neg hcq24, if_neg hcq30, if_neg hcq10]
        rw [e8] at hp
        exact e_vret dX6_readPart_65 rfl (hp _ hA)
      · refine e_iload_n dX6_readPart_33 rfl ?_
        refine e_iconst (nI (5)) dX6_readPart_34 (by decide) ?_
        refine e_icmp_geN 60 dX6_readPart_35 (by decide) (by omega) (by omega) (fun hcq35 => ?_) (fun hcq35 => absurd hcq35 (by decide))
        refine e_aload_n dX6_readPart_60 rfl ?_
        refine e_iload_n dX6_readPart_61 rfl ?_
        refine c_V1v (nc := 0) (ns := 0) (mc := 0) (ms := 0) (N := mX6_readName) dX6_readPart_62 lv_X6_99 mo_X6_readName hA.cn (Nat.le_of_ble_eq_true rfl) (Nat.le_of_ble_eq_true rfl) (by decide) (k_readName D hX hB hA) (fun h hP => ?_)
        have hA := hP
        have e8 : onP tp L u 0 y = nmP tp L u y := by rw [onP_0, onB, if_neg hcq24, if_pos hcq30, nmP, if_pos (by rw [hcq30]; exact nm_40 u)]
        rw [e8] at hp
        exact e_vret dX6_readPart_65 rfl (hp _ hA)
  · obtain ⟨hw, hlt⟩ := hrP_t (show ¬ hrP tp L y = -1 from fun z => absurd (z ▸ hcq10.1) (by decide))
    refine e_aload_n dX6_readPart_13 rfl ?_
    refine e_aload_n dX6_readPart_14 rfl ?_
    refine c_V1v (nc := 0) (ns := 0) (mc := 0) (ms := 0) (N := mX6_readNumber) dX6_readPart_15 lv_X6_91 mo_X6_readNumber hA.cn (Nat.le_of_ble_eq_true rfl) (Nat.le_of_ble_eq_true rfl) (by decide) (k_readNumber D hX hB hA (fun z => by have := hB.2 z; omega)) (fun h hP => ?_)
    have hA := hP
    refine e_goto 65 dX6_readPart_18 (by decide) ?_
    have e8 : onP tp L u 0 y = (dgP tp L 4 0 y) := by rw [onP_0, onB, if_neg (fun z => absurd (z ▸ hcq10.1) (by decide)), if_neg (fun z => absurd (z ▸ hcq10.1) (by decide)), if_pos hcq10]
    rw [e8] at hp
    exact e_vret dX6_readPart_65 rfl (hp _ hA)
set_option maxRecDepth 20000 in
theorem k_partS (D : En) {h0 : AH} {r u L : Nat} {tp : Nat → Int32} (hX : CT0 h0 r u L tp) {dq op q : Nat} (hop : op < 5) (hfp : RDc D dq mX6_readPart h0 r u L (op + 1) (onP tp L u q)) (hft : RDc D (dq + 5) mX6_readText h0 r u L (op + 1) (eiW tp L (onP tp L u q))) (hdq : 5 ≤ dq) : RDc D (dq + 7) mX6_readPart h0 r u L op (onP tp L u (q + 1)) := by
  obtain ⟨h97, hu3, hL50, ⟨ft, bt, hTp0, htp⟩, hXH, hby⟩ := id hX
  intro h y hB hA post hp
  show Ev D (dq + 7) mX6_readPart 0 [some (.ref (r)), some (.ref (25)), some (.int (nI (op))), none] [] h 0 0 post
  refine e_aload_n dX6_readPart_0 rfl ?_
  refine e_aload_n dX6_readPart_1 rfl ?_
  refine c_V1iR (N := mX6_next) dX6_readPart_2 lv_X6_69 mo_X6_next hA.cn (Nat.le_of_ble_eq_true rfl) (Nat.le_of_ble_eq_true rfl) (by omega) (k_next D hX hB hA) ?_
  refine e_istore_n dX6_readPart_5 (by decide) ?_
  refine e_iload_n dX6_readPart_6 rfl ?_
  refine c_S1iR (N := mX6_isDigit) dX6_readPart_7 ls_X6_88 mo_X6_isDigit  (Nat.le_of_ble_eq_true rfl) (Nat.le_of_ble_eq_true rfl) (by omega) (k_dig D ((hrP tp L y))) ?_
  refine e_if_eqB 21 dX6_readPart_10 (by decide) (fun hcq10 => ?_) (fun hcq10 => ?_)
  · refine e_iload_n dX6_readPart_21 rfl ?_
    refine e_bipush (nI (33)) dX6_readPart_22 (by decide) ?_
    refine e_icmp_eq 33 dX6_readPart_24 (by decide) (fun hcq24 => ?_) (fun hcq24 => ?_)
    · refine e_iload_n dX6_readPart_33 rfl ?_
      refine e_iconst (nI (5)) dX6_readPart_34 (by decide) ?_
      refine e_icmp_geN 60 dX6_readPart_35 (by decide) (by omega) (by omega) (fun hcq35 => absurd hcq35 (by omega)) (fun hcq35 => ?_)
      obtain ⟨hw, hlt⟩ := hrP_t (show ¬ hrP tp L y = -1 from fun z => absurd (hcq24.symm.trans z) (by decide))
      have hPL := PB.lp (q := 20010) hB hw (GR_on tp L u q (adP y)) hlt
      refine e_aload_n dX6_readPart_38 rfl ?_
      refine e_dup dX6_readPart_39 rfl ?_
      refine e_get dX6_readPart_40 fl_X6_24_6 hA.1 rfl ?_
      refine e_iconst (nI (1)) dX6_readPart_43 (by decide) ?_
      refine e_iaddN dX6_readPart_44 ?_
      refine e_put dX6_readPart_45 fl_X6_24_6 ft_6 (fun q hq => Or.inl (by cases hq; rfl)) hA.1 (by show _ < 5; decide) rfl rfl ?_
      have hA := hA.adv hw
      have hB0 := hB
      have hB := hB.adv hlt
      refine e_aload_n dX6_readPart_48 rfl ?_
      refine e_iload_n dX6_readPart_49 rfl ?_
      refine e_top (nI 33) hcq24 ?_
      refine e_aload_n dX6_readPart_50 rfl ?_
      refine e_iload_n dX6_readPart_51 rfl ?_
      refine e_iconst (nI (1)) dX6_readPart_52 (by decide) ?_
      refine e_iaddN dX6_readPart_53 ?_
      refine c_V3v (nc := 0) (ns := 0) (mc := 0) (ms := 0) (N := mX6_readOpened) dX6_readPart_54 lv_X6_95 mo_X6_readOpened hA.cn (Nat.le_of_ble_eq_true rfl) (Nat.le_of_ble_eq_true rfl) (by omega) (k_op33 D hX (by omega) hfp (GR_on tp L u q) (by omega) hB hA (PB.len hPL.1 hL50)) (fun h hP => ?_)
      have hA := hP
      refine e_goto 65 dX6_readPart_57 (by decide) ?_
      have e8 : onP tp L u (q + 1) y = (cdP 20010 (onP tp L u q (adP y))) := by rw [onP_S, onB, if_pos hcq24]
      rw [e8] at hp
      exact e_vret dX6_readPart_65 rfl (hp _ hA)
    · refine e_iload_n dX6_readPart_27 rfl ?_
      refine e_bipush (nI (40)) dX6_readPart_28 (by decide) ?_
      refine e_icmp_ne 60 dX6_readPart_30 (by decide) (fun hcq30 => ?_) (fun hcq30 => ?_)
      · refine e_aload_n dX6_readPart_60 rfl ?_
        refine e_iload_n dX6_readPart_61 rfl ?_
        refine c_V1v (nc := 0) (ns := 0) (mc := 0) (ms := 0) (N := mX6_readName) dX6_readPart_62 lv_X6_99 mo_X6_readName hA.cn (Nat.le_of_ble_eq_true rfl) (Nat.le_of_ble_eq_true rfl) (by omega) (k_readName D hX hB hA) (fun h hP => ?_)
        have hA := hP
        have e8 : onP tp L u (q + 1) y = (nmP tp L u y) := by rw [onP_S, onB, if_neg hcq24, if_neg hcq30, if_neg hcq10]
        rw [e8] at hp
        exact e_vret dX6_readPart_65 rfl (hp _ hA)
      · refine e_iload_n dX6_readPart_33 rfl ?_
        refine e_iconst (nI (5)) dX6_readPart_34 (by decide) ?_
        refine e_icmp_geN 60 dX6_readPart_35 (by decide) (by omega) (by omega) (fun hcq35 => absurd hcq35 (by omega)) (fun hcq35 => ?_)
        obtain ⟨hw, hlt⟩ := hrP_t (show ¬ hrP tp L y = -1 from fun z => absurd (hcq30.symm.trans z) (by decide))
        refine e_aload_n dX6_readPart_38 rfl ?_
        refine e_dup dX6_readPart_39 rfl ?_
        refine e_get dX6_readPart_40 fl_X6_24_6 hA.1 rfl ?_
        refine e_iconst (nI (1)) dX6_readPart_43 (by decide) ?_
        refine e_iaddN dX6_readPart_44 ?_
        refine e_put dX6_readPart_45 fl_X6_24_6 ft_6 (fun q hq => Or.inl (by cases hq; rfl)) hA.1 (by show _ < 5; decide) rfl rfl ?_
        have hA := hA.adv hw
        have hB0 := hB
        have hB := hB.adv hlt
        refine e_aload_n dX6_readPart_48 rfl ?_
        refine e_iload_n dX6_readPart_49 rfl ?_
        refine e_top (nI 40) hcq30 ?_
        refine e_aload_n dX6_readPart_50 rfl ?_
        refine e_iload_n dX6_readPart_51 rfl ?_
        refine e_iconst (nI (1)) dX6_readPart_52 (by decide) ?_
        refine e_iaddN dX6_readPart_53 ?_
        refine c_V3v (nc := 0) (ns := 0) (mc := 0) (ms := 0) (N := mX6_readOpened) dX6_readPart_54 lv_X6_95 mo_X6_readOpened hA.cn (Nat.le_of_ble_eq_true rfl) (Nat.le_of_ble_eq_true rfl) (by omega) (k_op40 D hX (by omega) hft (GR_ei (GR_on tp L u q)) (by omega) hB hA) (fun h hP => ?_)
        have hA := hP
        refine e_goto 65 dX6_readPart_57 (by decide) ?_
        have e8 : onP tp L u (q + 1) y = (clP tp L (eiW tp L (onP tp L u q) (adP y))) := by rw [onP_S, onB, if_neg hcq24, if_pos hcq30]
        rw [e8] at hp
        exact e_vret dX6_readPart_65 rfl (hp _ hA)
  · obtain ⟨hw, hlt⟩ := hrP_t (show ¬ hrP tp L y = -1 from fun z => absurd (z ▸ hcq10.1) (by decide))
    refine e_aload_n dX6_readPart_13 rfl ?_
    refine e_aload_n dX6_readPart_14 rfl ?_
    refine c_V1v (nc := 0) (ns := 0) (mc := 0) (ms := 0) (N := mX6_readNumber) dX6_readPart_15 lv_X6_91 mo_X6_readNumber hA.cn (Nat.le_of_ble_eq_true rfl) (Nat.le_of_ble_eq_true rfl) (by omega) (k_readNumber D hX hB hA (fun z => by have := hB.2 z; omega)) (fun h hP => ?_)
    have hA := hP
    refine e_goto 65 dX6_readPart_18 (by decide) ?_
    have e8 : onP tp L u (q + 1) y = (dgP tp L 4 0 y) := by rw [onP_S, onB, if_neg (fun z => absurd (z ▸ hcq10.1) (by decide)), if_neg (fun z => absurd (z ▸ hcq10.1) (by decide)), if_pos hcq10]
    rw [e8] at hp
    exact e_vret dX6_readPart_65 rfl (hp _ hA)
theorem k_part (D : En) {h0 : AH} {r u L : Nat} {tp : Nat → Int32} (hX : CT0 h0 r u L tp) : ∀ q, q ≤ 5 → RDc D (5 + 7 * q) mX6_readPart h0 r u L (5 - q) (onP tp L u q) := by
  intro q
  induction q with
  | zero => intro _; exact k_part0 D hX
  | succ q ih =>
    intro hq
    have h1 := ih (by omega)
    rw [show 5 - q = (5 - (q + 1)) + 1 by omega] at h1
    rw [show 5 + 7 * (q + 1) = 5 + 7 * q + 7 by omega]
    exact k_partS (dq := 5 + 7 * q) D hX (by omega) h1 (k_levels D hX (by omega) h1 (GR_on tp L u q) (by omega)) (by omega)
theorem k_text (D : En) {h0 : AH} {r u L : Nat} {tp : Nat → Int32} (hX : CT0 h0 r u L tp) : RDc D 45 mX6_readText h0 r u L 0 (eiW tp L (onP tp L u 5)) := k_levels D hX (by decide) (k_part D hX 5 (by decide)) (GR_on tp L u 5) (by decide)
