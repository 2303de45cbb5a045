set_option maxRecDepth 20000 in
theorem cr_readProduct (D : En) {h0 : AH} {r u L : Nat} {tp : Nat → Int32} (hX : CT0 h0 r u L tp) {dq op : Nat} (hop : op ≤ 5) {f : PT → PT} (hf : RDc D dq mX6_readPart h0 r u L op f) (hG : ∀ y, GR L u y (f y)) (hdq : 1 ≤ dq) {post : Option Value → AH → Prop} : ∀ (j k : Nat) (h : AH) (y : PT), (k + j = 50) → PB L y → PAc h0 r u h y → (∀ h', PAc h0 r u h' (lpP tp L oPr f j y) → post none h') → Ev D (dq + 1) mX6_readProduct 15 [some (.ref (r)), some (.ref (25)), some (.int (nI (op))), some (.int (hrP tp L y)), some (.int (nI (k)))] [] h 0 0 post := by
  obtain ⟨h97, hu3, hL50, ⟨ft, bt, hTp0, htp⟩, hXH, hby⟩ := id hX
  intro j
  induction j with
  | zero =>
    intro k h y hm hB hA hp
    refine e_iload dX6_readProduct_15 rfl ?_
    refine e_bipush (nI (50)) dX6_readProduct_17 (by decide) ?_
    refine e_icmp_geN 77 dX6_readProduct_19 (by decide) (by omega) (by omega) (fun hcq19 => ?_) (fun hcq19 => absurd hcq19 (by omega))
    exact e_vret dX6_readProduct_77 rfl (hp _ hA)
  | succ j ih =>
    intro k h y hm hB hA hp
    refine e_iload dX6_readProduct_15 rfl ?_
    refine e_bipush (nI (50)) dX6_readProduct_17 (by decide) ?_
    refine e_icmp_geN 77 dX6_readProduct_19 (by decide) (by omega) (by omega) (fun hcq19 => absurd hcq19 (by omega)) (fun hcq19 => ?_)
    refine e_iload_n dX6_readProduct_22 rfl ?_
    refine e_bipush (nI (42)) dX6_readProduct_23 (by decide) ?_
    refine e_icmp_eq 40 dX6_readProduct_25 (by decide) (fun hcq25 => ?_) (fun hcq25 => ?_)
    · obtain ⟨hw, hlt⟩ := hrP_t (show ¬ hrP tp L y = -1 from fun z => absurd (hcq25.symm.trans z) (by decide))
      have hPL := PB.lp (q := 20007) hB hw (hG (adP y)) hlt
      refine e_aload_n dX6_readProduct_40 rfl ?_
      refine e_dup dX6_readProduct_41 rfl ?_
      refine e_get dX6_readProduct_42 fl_X6_24_6 hA.1 rfl ?_
      refine e_iconst (nI (1)) dX6_readProduct_45 (by decide) ?_
      refine e_iaddN dX6_readProduct_46 ?_
      refine e_put dX6_readProduct_47 fl_X6_24_6 ft_6 (fun q hq => Or.inl (by cases hq; rfl)) hA.1 (by show _ < 5; decide) rfl rfl ?_
      have hA := hA.adv hw
      have hB0 := hB
      have hB := hB.adv hlt
      refine e_aload_n dX6_readProduct_50 rfl ?_
      refine e_aload_n dX6_readProduct_51 rfl ?_
      refine e_iload_n dX6_readProduct_52 rfl ?_
      refine c_V2v (nc := 0) (ns := 0) (mc := 0) (ms := 0) (N := mX6_readPart) dX6_readProduct_53 lv_X6_85 mo_X6_readPart hA.cn (Nat.le_of_ble_eq_true rfl) (Nat.le_of_ble_eq_true rfl) (by omega) (hf _ _ hB hA) (fun h hP => ?_)
      have hA := hP
      have hB := hB.gr (hG _)
      refine e_aload_n dX6_readProduct_56 rfl ?_
      refine e_get dX6_readProduct_57 fl_X6_14_6 hA.1 rfl ?_
      refine e_iload_n dX6_readProduct_60 rfl ?_
      refine e_ineg dX6_readProduct_61 ?_
      refine c_V1v (nc := 0) (ns := 0) (mc := 0) (ms := 0) (N := mX5_add) dX6_readProduct_62 lv_X6_73 mo_X5_add hA.cnS (Nat.le_of_ble_eq_true rfl) (Nat.le_of_ble_eq_true rfl) (by omega) (k_cadd D hX hA (20007) ((-(hrP tp L y))) (by rw [hcq25]; decide) (PB.len hPL.1 hL50)) (fun h hP => ?_)
      have hA := hP
      have hB := hPL.1
      refine e_aload_n dX6_readProduct_65 rfl ?_
      refine e_aload_n dX6_readProduct_66 rfl ?_
      refine c_V1iR (N := mX6_next) dX6_readProduct_67 lv_X6_69 mo_X6_next hA.cn (Nat.le_of_ble_eq_true rfl) (Nat.le_of_ble_eq_true rfl) (by omega) (k_next D hX hB hA) ?_
      refine e_istore_n dX6_readProduct_70 (by decide) ?_
      refine e_iincN (k + 1) dX6_readProduct_71 rfl (by decide) (nI_add _ _) ?_
      refine e_goto 15 dX6_readProduct_74 (by decide) ?_
      have e7 : oPr (hrP tp L y) = 20007 := by unfold oPr; rw [if_pos hcq25]
      have e8 : lpP tp L oPr f (j + 1) y = lpP tp L oPr f j (cdP 20007 (f (adP y))) := by rw [lpP, e7, if_neg (by decide)]
      rw [e8] at hp
      exact ih (k + 1) _ _ (by omega) hB hA hp
    · refine e_iload_n dX6_readProduct_28 rfl ?_
      refine e_bipush (nI (47)) dX6_readProduct_29 (by decide) ?_
      refine e_icmp_eq 40 dX6_readProduct_31 (by decide) (fun hcq31 => ?_) (fun hcq31 => ?_)
      · obtain ⟨hw, hlt⟩ := hrP_t (show ¬ hrP tp L y = -1 from fun z => absurd (hcq31.symm.trans z) (by decide))
        have hPL := PB.lp (q := 20008) hB hw (hG (adP y)) hlt
        refine e_aload_n dX6_readProduct_40 rfl ?_
        refine e_dup dX6_readProduct_41 rfl ?_
        refine e_get dX6_readProduct_42 fl_X6_24_6 hA.1 rfl ?_
        refine e_iconst (nI (1)) dX6_readProduct_45 (by decide) ?_
        refine e_iaddN dX6_readProduct_46 ?_
        refine e_put dX6_readProduct_47 fl_X6_24_6 ft_6 (fun q hq => Or.inl (by cases hq; rfl)) hA.1 (by show _ < 5; decide) rfl rfl ?_
        have hA := hA.adv hw
        have hB0 := hB
        have hB := hB.adv hlt
        refine e_aload_n dX6_readProduct_50 rfl ?_
        refine e_aload_n dX6_readProduct_51 rfl ?_
        refine e_iload_n dX6_readProduct_52 rfl ?_
        refine c_V2v (nc := 0) (ns := 0) (mc := 0) (ms := 0) (N := mX6_readPart) dX6_readProduct_53 lv_X6_85 mo_X6_readPart hA.cn (Nat.le_of_ble_eq_true rfl) (Nat.le_of_ble_eq_true rfl) (by omega) (hf _ _ hB hA) (fun h hP => ?_)
        have hA := hP
        have hB := hB.gr (hG _)
        refine e_aload_n dX6_readProduct_56 rfl ?_
        refine e_get dX6_readProduct_57 fl_X6_14_6 hA.1 rfl ?_
        refine e_iload_n dX6_readProduct_60 rfl ?_
        refine e_ineg dX6_readProduct_61 ?_
        refine c_V1v (nc := 0) (ns := 0) (mc := 0) (ms := 0) (N := mX5_add) dX6_readProduct_62 lv_X6_73 mo_X5_add hA.cnS (Nat.le_of_ble_eq_true rfl) (Nat.le_of_ble_eq_true rfl) (by omega) (k_cadd D hX hA (20008) ((-(hrP tp L y))) (by rw [hcq31]; decide) (PB.len hPL.1 hL50)) (fun h hP => ?_)
        have hA := hP
        have hB := hPL.1
        refine e_aload_n dX6_readProduct_65 rfl ?_
        refine e_aload_n dX6_readProduct_66 rfl ?_
        refine c_V1iR (N := mX6_next) dX6_readProduct_67 lv_X6_69 mo_X6_next hA.cn (Nat.le_of_ble_eq_true rfl) (Nat.le_of_ble_eq_true rfl) (by omega) (k_next D hX hB hA) ?_
        refine e_istore_n dX6_readProduct_70 (by decide) ?_
        refine e_iincN (k + 1) dX6_readProduct_71 rfl (by decide) (nI_add _ _) ?_
        refine e_goto 15 dX6_readProduct_74 (by decide) ?_
        have e7 : oPr (hrP tp L y) = 20008 := by unfold oPr; rw [if_neg hcq25, if_pos hcq31]
        have e8 : lpP tp L oPr f (j + 1) y = lpP tp L oPr f j (cdP 20008 (f (adP y))) := by rw [lpP, e7, if_neg (by decide)]
        rw [e8] at hp
        exact ih (k + 1) _ _ (by omega) hB hA hp
      · refine e_iload_n dX6_readProduct_34 rfl ?_
        refine e_bipush (nI (37)) dX6_readProduct_35 (by decide) ?_
        refine e_icmp_ne 77 dX6_readProduct_37 (by decide) (fun hcq37 => ?_) (fun hcq37 => ?_)
        · have e8 : lpP tp L oPr f (j + 1) y = y := by rw [lpP, if_pos]; unfold oPr; rw [if_neg hcq25, if_neg hcq31, if_neg hcq37]
          rw [e8] at hp
          exact e_vret dX6_readProduct_77 rfl (hp _ hA)
        · obtain ⟨hw, hlt⟩ := hrP_t (show ¬ hrP tp L y = -1 from fun z => absurd (hcq37.symm.trans z) (by decide))
          have hPL := PB.lp (q := 20009) hB hw (hG (adP y)) hlt
          refine e_aload_n dX6_readProduct_40 rfl ?_
          refine e_dup dX6_readProduct_41 rfl ?_
          refine e_get dX6_readProduct_42 fl_X6_24_6 hA.1 rfl ?_
          refine e_iconst (nI (1)) dX6_readProduct_45 (by decide) ?_
          refine e_iaddN dX6_readProduct_46 ?_
          refine e_put dX6_readProduct_47 fl_X6_24_6 ft_6 (fun q hq => Or.inl (by cases hq; rfl)) hA.1 (by show _ < 5; decide) rfl rfl ?_
          have hA := hA.adv hw
          have hB0 := hB
          have hB := hB.adv hlt
          refine e_aload_n dX6_readProduct_50 rfl ?_
          refine e_aload_n dX6_readProduct_51 rfl ?_
          refine e_iload_n dX6_readProduct_52 rfl ?_
          refine c_V2v (nc := 0) (ns := 0) (mc := 0) (ms := 0) (N := mX6_readPart) dX6_readProduct_53 lv_X6_85 mo_X6_readPart hA.cn (Nat.le_of_ble_eq_true rfl) (Nat.le_of_ble_eq_true rfl) (by omega) (hf _ _ hB hA) (fun h hP => ?_)
          have hA := hP
          have hB := hB.gr (hG _)
          refine e_aload_n dX6_readProduct_56 rfl ?_
          refine e_get dX6_readProduct_57 fl_X6_14_6 hA.1 rfl ?_
          refine e_iload_n dX6_readProduct_60 rfl ?_
          refine e_ineg dX6_readProduct_61 ?_
          refine c_V1v (nc := 0) (ns := 0) (mc := 0) (ms := 0) (N := mX5_add) dX6_readProduct_62 lv_X6_73 mo_X5_add hA.cnS (Nat.le_of_ble_eq_true rfl) (Nat.le_of_ble_eq_true rfl) (by omega) (k_cadd D hX hA (20009) ((-(hrP tp L y))) (by rw [hcq37]; decide) (PB.len hPL.1 hL50)) (fun h hP => ?_)
          have hA := hP
          have hB := hPL.1
          refine e_aload_n dX6_readProduct_65 rfl ?_
          refine e_aload_n dX6_readProduct_66 rfl ?_
          refine c_V1iR (N := mX6_next) dX6_readProduct_67 lv_X6_69 mo_X6_next hA.cn (Nat.le_of_ble_eq_true rfl) (Nat.le_of_ble_eq_true rfl) (by omega) (k_next D hX hB hA) ?_
          refine e_istore_n dX6_readProduct_70 (by decide) ?_
          refine e_iincN (k + 1) dX6_readProduct_71 rfl (by decide) (nI_add _ _) ?_
          refine e_goto 15 dX6_readProduct_74 (by decide) ?_
          have e7 : oPr (hrP tp L y) = 20009 := by unfold oPr; rw [if_neg hcq25, if_neg hcq31, if_pos hcq37]
          have e8 : lpP tp L oPr f (j + 1) y = lpP tp L oPr f j (cdP 20009 (f (adP y))) := by rw [lpP, e7, if_neg (by decide)]
          rw [e8] at hp
          exact ih (k + 1) _ _ (by omega) hB hA hp
set_option maxRecDepth 20000 in
theorem k_readProduct (D : En) {h0 : AH} {r u L : Nat} {tp : Nat → Int32} (hX : CT0 h0 r u L tp) {dq op : Nat} (hop : op ≤ 5) {f : PT → PT} (hf : RDc D dq mX6_readPart h0 r u L op f) (hG : ∀ y, GR L u y (f y)) (hdq : 1 ≤ dq) : RDc D (dq + 1) mX6_readProduct h0 r u L op (lvP tp L oPr f 50) := by
  obtain ⟨h97, hu3, hL50, ⟨ft, bt, hTp0, htp⟩, hXH, hby⟩ := id hX
  intro h y hB hA post hp
  show Ev D (dq + 1) mX6_readProduct 0 [some (.ref (r)), some (.ref (25)), some (.int (nI (op))), none, none] [] h 0 0 post
  refine e_aload_n dX6_readProduct_0 rfl ?_
  refine e_aload_n dX6_readProduct_1 rfl ?_
  refine e_iload_n dX6_readProduct_2 rfl ?_
  refine c_V2v (nc := 0) (ns := 0) (mc := 0) (ms := 0) (N := mX6_readPart) dX6_readProduct_3 lv_X6_85 mo_X6_readPart hA.cn (Nat.le_of_ble_eq_true rfl) (Nat.le_of_ble_eq_true rfl) (by omega) (hf _ _ hB hA) (fun h hP => ?_)
  have hA := hP
  have hB := hB.gr (hG _)
  refine e_aload_n dX6_readProduct_6 rfl ?_
  refine e_aload_n dX6_readProduct_7 rfl ?_
  refine c_V1iR (N := mX6_next) dX6_readProduct_8 lv_X6_69 mo_X6_next hA.cn (Nat.le_of_ble_eq_true rfl) (Nat.le_of_ble_eq_true rfl) (by omega) (k_next D hX hB hA) ?_
  refine e_istore_n dX6_readProduct_11 (by decide) ?_
  refine e_iconst (nI (0)) dX6_readProduct_12 (by decide) ?_
  refine e_istore dX6_readProduct_13 (by decide) ?_
  exact cr_readProduct D hX hop hf hG hdq 50 0 _ _ (by omega) hB hA hp
set_option maxRecDepth 20000 in
theorem cr_readSum (D : En) {h0 : AH} {r u L : Nat} {tp : Nat → Int32} (hX : CT0 h0 r u L tp) {dq op : Nat} (hop : op ≤ 5) {f : PT → PT} (hf : RDc D dq mX6_readProduct h0 r u L op f) (hG : ∀ y, GR L u y (f y)) (hdq : 1 ≤ dq) {post : Option Value → AH → Prop} : ∀ (j k : Nat) (h : AH) (y : PT), (k + j = 50) → PB L y → PAc h0 r u h y → (∀ h', PAc h0 r u h' (lpP tp L oSu f j y) → post none h') → Ev D (dq + 1) mX6_readSum 15 [some (.ref (r)), some (.ref (25)), some (.int (nI (op))), some (.int (hrP tp L y)), some (.int (nI (k)))] [] h 0 0 post := by
  obtain ⟨h97, hu3, hL50, ⟨ft, bt, hTp0, htp⟩, hXH, hby⟩ := id hX
  intro j
  induction j with
  | zero =>
    intro k h y hm hB hA hp
    refine e_iload dX6_readSum_15 rfl ?_
    refine e_bipush (nI (50)) dX6_readSum_17 (by decide) ?_
    refine e_icmp_geN 71 dX6_readSum_19 (by decide) (by omega) (by omega) (fun hcq19 => ?_) (fun hcq19 => absurd hcq19 (by omega))
    exact e_vret dX6_readSum_71 rfl (hp _ hA)
  | succ j ih =>
    intro k h y hm hB hA hp
    refine e_iload dX6_readSum_15 rfl ?_
    refine e_bipush (nI (50)) dX6_readSum_17 (by decide) ?_
    refine e_icmp_geN 71 dX6_readSum_19 (by decide) (by omega) (by omega) (fun hcq19 => absurd hcq19 (by omega)) (fun hcq19 => ?_)
    refine e_iload_n dX6_readSum_22 rfl ?_
    refine e_bipush (nI (43)) dX6_readSum_23 (by decide) ?_
    refine e_icmp_eq 34 dX6_readSum_25 (by decide) (fun hcq25 => ?_) (fun hcq25 => ?_)
    · obtain ⟨hw, hlt⟩ := hrP_t (show ¬ hrP tp L y = -1 from fun z => absurd (hcq25.symm.trans z) (by decide))
      have hPL := PB.lp (q := 20005) hB hw (hG (adP y)) hlt
      refine e_aload_n dX6_readSum_34 rfl ?_
      refine e_dup dX6_readSum_35 rfl ?_
      refine e_get dX6_readSum_36 fl_X6_24_6 hA.1 rfl ?_
      refine e_iconst (nI (1)) dX6_readSum_39 (by decide) ?_
      refine e_iaddN dX6_readSum_40 ?_
      refine e_put dX6_readSum_41 fl_X6_24_6 ft_6 (fun q hq => Or.inl (by cases hq; rfl)) hA.1 (by show _ < 5; decide) rfl rfl ?_
      have hA := hA.adv hw
      have hB0 := hB
      have hB := hB.adv hlt
      refine e_aload_n dX6_readSum_44 rfl ?_
      refine e_aload_n dX6_readSum_45 rfl ?_
      refine e_iload_n dX6_readSum_46 rfl ?_
      refine c_V2v (nc := 0) (ns := 0) (mc := 0) (ms := 0) (N := mX6_readProduct) dX6_readSum_47 lv_X6_82 mo_X6_readProduct hA.cn (Nat.le_of_ble_eq_true rfl) (Nat.le_of_ble_eq_true rfl) (by omega) (hf _ _ hB hA) (fun h hP => ?_)
      have hA := hP
      have hB := hB.gr (hG _)
      refine e_aload_n dX6_readSum_50 rfl ?_
      refine e_get dX6_readSum_51 fl_X6_14_6 hA.1 rfl ?_
      refine e_iload_n dX6_readSum_54 rfl ?_
      refine e_ineg dX6_readSum_55 ?_
      refine c_V1v (nc := 0) (ns := 0) (mc := 0) (ms := 0) (N := mX5_add) dX6_readSum_56 lv_X6_73 mo_X5_add hA.cnS (Nat.le_of_ble_eq_true rfl) (Nat.le_of_ble_eq_true rfl) (by omega) (k_cadd D hX hA (20005) ((-(hrP tp L y))) (by rw [hcq25]; decide) (PB.len hPL.1 hL50)) (fun h hP => ?_)
      have hA := hP
      have hB := hPL.1
      refine e_aload_n dX6_readSum_59 rfl ?_
      refine e_aload_n dX6_readSum_60 rfl ?_
      refine c_V1iR (N := mX6_next) dX6_readSum_61 lv_X6_69 mo_X6_next hA.cn (Nat.le_of_ble_eq_true rfl) (Nat.le_of_ble_eq_true rfl) (by omega) (k_next D hX hB hA) ?_
      refine e_istore_n dX6_readSum_64 (by decide) ?_
      refine e_iincN (k + 1) dX6_readSum_65 rfl (by decide) (nI_add _ _) ?_
      refine e_goto 15 dX6_readSum_68 (by decide) ?_
      have e7 : oSu (hrP tp L y) = 20005 := by unfold oSu; rw [if_pos hcq25]
      have e8 : lpP tp L oSu f (j + 1) y = lpP tp L oSu f j (cdP 20005 (f (adP y))) := by rw [lpP, e7, if_neg (by decide)]
      rw [e8] at hp
      exact ih (k + 1) _ _ (by omega) hB hA hp
    · refine e_iload_n dX6_readSum_28 rfl ?_
      refine e_bipush (nI (45)) dX6_readSum_29 (by decide) ?_
      refine e_icmp_ne 71 dX6_readSum_31 (by decide) (fun hcq31 => ?_) (fun hcq31 => ?_)
      · have e8 : lpP tp L oSu f (j + 1) y = y := by rw [lpP, if_pos]; unfold oSu; rw [if_neg hcq25, if_neg hcq31]
        rw [e8] at hp
        exact e_vret dX6_readSum_71 rfl (hp _ hA)
      · obtain ⟨hw, hlt⟩ := hrP_t (show ¬ hrP tp L y = -1 from fun z => absurd (hcq31.symm.trans z) (by decide))
        have hPL := PB.lp (q := 20006) hB hw (hG (adP y)) hlt
        refine e_aload_n dX6_readSum_34 rfl ?_
        refine e_dup dX6_readSum_35 rfl ?_
        refine e_get dX6_readSum_36 fl_X6_24_6 hA.1 rfl ?_
        refine e_iconst (nI (1)) dX6_readSum_39 (by decide) ?_
        refine e_iaddN dX6_readSum_40 ?_
        refine e_put dX6_readSum_41 fl_X6_24_6 ft_6 (fun q hq => Or.inl (by cases hq; rfl)) hA.1 (by show _ < 5; decide) rfl rfl ?_
        have hA := hA.adv hw
        have hB0 := hB
        have hB := hB.adv hlt
        refine e_aload_n dX6_readSum_44 rfl ?_
        refine e_aload_n dX6_readSum_45 rfl ?_
        refine e_iload_n dX6_readSum_46 rfl ?_
        refine c_V2v (nc := 0) (ns := 0) (mc := 0) (ms := 0) (N := mX6_readProduct) dX6_readSum_47 lv_X6_82 mo_X6_readProduct hA.cn (Nat.le_of_ble_eq_true rfl) (Nat.le_of_ble_eq_true rfl) (by omega) (hf _ _ hB hA) (fun h hP => ?_)
        have hA := hP
        have hB := hB.gr (hG _)
        refine e_aload_n dX6_readSum_50 rfl ?_
        refine e_get dX6_readSum_51 fl_X6_14_6 hA.1 rfl ?_
        refine e_iload_n dX6_readSum_54 rfl ?_
        refine e_ineg dX6_readSum_55 ?_
        refine c_V1v (nc := 0) (ns := 0) (mc := 0) (ms := 0) (N := mX5_add) dX6_readSum_56 lv_X6_73 mo_X5_add hA.cnS (Nat.le_of_ble_eq_true rfl) (Nat.le_of_ble_eq_true rfl) (by omega) (k_cadd D hX hA (20006) ((-(hrP tp L y))) (by rw [hcq31]; decide) (PB.len hPL.1 hL50)) (fun h hP => ?_)
        have hA := hP
        have hB := hPL.1
        refine e_aload_n dX6_readSum_59 rfl ?_
        refine e_aload_n dX6_readSum_60 rfl ?_
        refine c_V1iR (N := mX6_next) dX6_readSum_61 lv_X6_69 mo_X6_next hA.cn (Nat.le_of_ble_eq_true rfl) (Nat.le_of_ble_eq_true rfl) (by omega) (k_next D hX hB hA) ?_
        refine e_istore_n dX6_readSum_64 (by decide) ?_
        refine e_iincN (k + 1) dX6_readSum_65 rfl (by decide) (nI_add _ _) ?_
        refine e_goto 15 dX6_readSum_68 (by decide) ?_
        have e7 : oSu (hrP tp L y) = 20006 := by unfold oSu; rw [if_neg hcq25, if_pos hcq31]
        have e8 : lpP tp L oSu f (j + 1) y = lpP tp L oSu f j (cdP 20006 (f (adP y))) := by rw [lpP, e7, if_neg (by decide)]
        rw [e8] at hp
        exact ih (k + 1) _ _ (by omega) hB hA hp
set_option maxRecDepth 20000 in
theorem k_readSum (D : En) {h0 : AH} {r u L : Nat} {tp : Nat → Int32} (hX : CT0 h0 r u L tp) {dq op : Nat} (hop : op ≤ 5) {f : PT → PT} (hf : RDc D dq mX6_readProduct h0 r u L op f) (hG : ∀ y, GR L u y (f y)) (hdq : 1 ≤ dq) : RDc D (dq + 1) mX6_readSum h0 r u L op (lvP tp L oSu f 50) := by
  obtain ⟨h97, hu3, hL50, ⟨ft, bt, hTp0, htp⟩, hXH, hby⟩ := id hX
  intro h y hB hA post hp
  show Ev D (dq + 1) mX6_readSum 0 [some (.ref (r)), some (.ref (25)), some (.int (nI (op))), none, none] [] h 0 0 post
  refine e_aload_n dX6_readSum_0 rfl ?_
  refine e_aload_n dX6_readSum_1 rfl ?_
  refine e_iload_n dX6_readSum_2 rfl ?_
  refine c_V2v (nc := 0) (ns := 0) (mc := 0) (ms := 0) (N := mX6_readProduct) dX6_readSum_3 lv_X6_82 mo_X6_readProduct hA.cn (Nat.le_of_ble_eq_true rfl) (Nat.le_of_ble_eq_true rfl) (by omega) (hf _ _ hB hA) (fun h hP => ?_)
  have hA := hP
  have hB := hB.gr (hG _)
  refine e_aload_n dX6_readSum_6 rfl ?_
  refine e_aload_n dX6_readSum_7 rfl ?_
  refine c_V1iR (N := mX6_next) dX6_readSum_8 lv_X6_69 mo_X6_next hA.cn (Nat.le_of_ble_eq_true rfl) (Nat.le_of_ble_eq_true rfl) (by omega) (k_next D hX hB hA) ?_
  refine e_istore_n dX6_readSum_11 (by decide) ?_
  refine e_iconst (nI (0)) dX6_readSum_12 (by decide) ?_
  refine e_istore dX6_readSum_13 (by decide) ?_
  exact cr_readSum D hX hop hf hG hdq 50 0 _ _ (by omega) hB hA hp
set_option maxRecDepth 20000 in
theorem k_readCompared (D : En) {h0 : AH} {r u L : Nat} {tp : Nat → Int32} (hX : CT0 h0 r u L tp) {dq op : Nat} (hop : op ≤ 5) {f : PT → PT} (hf : RDc D dq mX6_readSum h0 r u L op f) (hG : ∀ y, GR L u y (f y)) (hdq : 1 ≤ dq) : RDc D (dq + 1) mX6_readCompared h0 r u L op (lvP tp L oCm f 1) := by
  obtain ⟨h97, hu3, hL50, ⟨ft, bt, hTp0, htp⟩, hXH, hby⟩ := id hX
  intro h y hB hA post hp
  show Ev D (dq + 1) mX6_readCompared 0 [some (.ref (r)), some (.ref (25)), some (.int (nI (op))), none] [] h 0 0 post
  refine e_aload_n dX6_readCompared_0 rfl ?_
  refine e_aload_n dX6_readCompared_1 rfl ?_
  refine e_iload_n dX6_readCompared_2 rfl ?_
  refine c_V2v (nc := 0) (ns := 0) (mc := 0) (ms := 0) (N := mX6_readSum) dX6_readCompared_3 lv_X6_79 mo_X6_readSum hA.cn (Nat.le_of_ble_eq_true rfl) (Nat.le_of_ble_eq_true rfl) (by omega) (hf _ _ hB hA) (fun h hP => ?_)
  have hA := hP
  have hB := hB.gr (hG _)
  refine e_aload_n dX6_readCompared_6 rfl ?_
  refine e_aload_n dX6_readCompared_7 rfl ?_
  refine c_V1iR (N := mX6_next) dX6_readCompared_8 lv_X6_69 mo_X6_next hA.cn (Nat.le_of_ble_eq_true rfl) (Nat.le_of_ble_eq_true rfl) (by omega) (k_next D hX hB hA) ?_
  refine e_istore_n dX6_readCompared_11 (by decide) ?_
  refine e_iload_n dX6_readCompared_12 rfl ?_
  refine e_bipush (nI (60)) dX6_readCompared_13 (by decide) ?_
  refine e_icmp_eq 30 dX6_readCompared_15 (by decide) (fun hcq15 => ?_) (fun hcq15 => ?_)
  · obtain ⟨hw, hlt⟩ := hrP_t (show ¬ hrP tp L (f y) = -1 from fun z => absurd (hcq15.symm.trans z) (by decide))
    have hPL := PB.lp (q := 20002) hB hw (hG (adP (f y))) hlt
    refine e_aload_n dX6_readCompared_30 rfl ?_
    refine e_dup dX6_readCompared_31 rfl ?_
    refine e_get dX6_readCompared_32 fl_X6_24_6 hA.1 rfl ?_
    refine e_iconst (nI (1)) dX6_readCompared_35 (by decide) ?_
    refine e_iaddN dX6_readCompared_36 ?_
    refine e_put dX6_readCompared_37 fl_X6_24_6 ft_6 (fun q hq => Or.inl (by cases hq; rfl)) hA.1 (by show _ < 5; decide) rfl rfl ?_
    have hA := hA.adv hw
    have hB0 := hB
    have hB := hB.adv hlt
    refine e_aload_n dX6_readCompared_40 rfl ?_
    refine e_aload_n dX6_readCompared_41 rfl ?_
    refine e_iload_n dX6_readCompared_42 rfl ?_
    refine c_V2v (nc := 0) (ns := 0) (mc := 0) (ms := 0) (N := mX6_readSum) dX6_readCompared_43 lv_X6_79 mo_X6_readSum hA.cn (Nat.le_of_ble_eq_true rfl) (Nat.le_of_ble_eq_true rfl) (by omega) (hf _ _ hB hA) (fun h hP => ?_)
    have hA := hP
    have hB := hB.gr (hG _)
    refine e_aload_n dX6_readCompared_46 rfl ?_
    refine e_get dX6_readCompared_47 fl_X6_14_6 hA.1 rfl ?_
    refine e_iload_n dX6_readCompared_50 rfl ?_
    refine e_ineg dX6_readCompared_51 ?_
    refine c_V1v (nc := 0) (ns := 0) (mc := 0) (ms := 0) (N := mX5_add) dX6_readCompared_52 lv_X6_73 mo_X5_add hA.cnS (Nat.le_of_ble_eq_true rfl) (Nat.le_of_ble_eq_true rfl) (by omega) (k_cadd D hX hA (20002) ((-(hrP tp L (f y)))) (by rw [hcq15]; decide) (PB.len hPL.1 hL50)) (fun h hP => ?_)
    have hA := hP
    have e7 : oCm (hrP tp L (f y)) = 20002 := by unfold oCm; rw [if_pos hcq15]
    have e8 : lvP tp L oCm f 1 y = cdP 20002 (f (adP (f y))) := by rw [lvP, lpP, e7, if_neg (by decide), lpP]
    rw [e8] at hp
    exact e_vret dX6_readCompared_55 rfl (hp _ hA)
  · refine e_iload_n dX6_readCompared_18 rfl ?_
    refine e_bipush (nI (61)) dX6_readCompared_19 (by decide) ?_
    refine e_icmp_eq 30 dX6_readCompared_21 (by decide) (fun hcq21 => ?_) (fun hcq21 => ?_)
    · obtain ⟨hw, hlt⟩ := hrP_t (show ¬ hrP tp L (f y) = -1 from fun z => absurd (hcq21.symm.trans z) (by decide))
      have hPL := PB.lp (q := 20003) hB hw (hG (adP (f y))) hlt
      refine e_aload_n dX6_readCompared_30 rfl ?_
      refine e_dup dX6_readCompared_31 rfl ?_
      refine e_get dX6_readCompared_32 fl_X6_24_6 hA.1 rfl ?_
      refine e_iconst (nI (1)) dX6_readCompared_35 (by decide) ?_
      refine e_iaddN dX6_readCompared_36 ?_
      refine e_put dX6_readCompared_37 fl_X6_24_6 ft_6 (fun q hq => Or.inl (by cases hq; rfl)) hA.1 (by show _ < 5; decide) rfl rfl ?_
      have hA := hA.adv hw
      have hB0 := hB
      have hB := hB.adv hlt
      refine e_aload_n dX6_readCompared_40 rfl ?_
      refine e_aload_n dX6_readCompared_41 rfl ?_
      refine e_iload_n dX6_readCompared_42 rfl ?_
      refine c_V2v (nc := 0) (ns := 0) (mc := 0) (ms := 0) (N := mX6_readSum) dX6_readCompared_43 lv_X6_79 mo_X6_readSum hA.cn (Nat.le_of_ble_eq_true rfl) (Nat.le_of_ble_eq_true rfl) (by omega) (hf _ _ hB hA) (fun h hP => ?_)
      have hA := hP
      have hB := hB.gr (hG _)
      refine e_aload_n dX6_readCompared_46 rfl ?_
      refine e_get dX6_readCompared_47 fl_X6_14_6 hA.1 rfl ?_
      refine e_iload_n dX6_readCompared_50 rfl ?_
      refine e_ineg dX6_readCompared_51 ?_
      refine c_V1v (nc := 0) (ns := 0) (mc := 0) (ms := 0) (N := mX5_add) dX6_readCompared_52 lv_X6_73 mo_X5_add hA.cnS (Nat.le_of_ble_eq_true rfl) (Nat.le_of_ble_eq_true rfl) (by omega) (k_cadd D hX hA (20003) ((-(hrP tp L (f y)))) (by rw [hcq21]; decide) (PB.len hPL.1 hL50)) (fun h hP => ?_)
      have hA := hP
      have e7 : oCm (hrP tp L (f y)) = 20003 := by unfold oCm; rw [if_neg hcq15, if_pos hcq21]
      have e8 : lvP tp L oCm f 1 y = cdP 20003 (f (adP (f y))) := by rw [lvP, lpP, e7, if_neg (by decide), lpP]
      rw [e8] at hp
      exact e_vret dX6_readCompared_55 rfl (hp _ hA)
    · refine e_iload_n dX6_readCompared_24 rfl ?_
      refine e_bipush (nI (62)) dX6_readCompared_25 (by decide) ?_
      refine e_icmp_ne 55 dX6_readCompared_27 (by decide) (fun hcq27 => ?_) (fun hcq27 => ?_)
      · have e8 : lvP tp L oCm f 1 y = f y := by rw [lvP, lpP, if_pos]; unfold oCm; rw [if_neg hcq15, if_neg hcq21, if_neg hcq27]
        rw [e8] at hp
        exact e_vret dX6_readCompared_55 rfl (hp _ hA)
      · obtain ⟨hw, hlt⟩ := hrP_t (show ¬ hrP tp L (f y) = -1 from fun z => absurd (hcq27.symm.trans z) (by decide))
        have hPL := PB.lp (q := 20004) hB hw (hG (adP (f y))) hlt
        refine e_aload_n dX6_readCompared_30 rfl ?_
        refine e_dup dX6_readCompared_31 rfl ?_
        refine e_get dX6_readCompared_32 fl_X6_24_6 hA.1 rfl ?_
        refine e_iconst (nI (1)) dX6_readCompared_35 (by decide) ?_
        refine e_iaddN dX6_readCompared_36 ?_
        refine e_put dX6_readCompared_37 fl_X6_24_6 ft_6 (fun q hq => Or.inl (by cases hq; rfl)) hA.1 (by show _ < 5; decide) rfl rfl ?_
        have hA := hA.adv hw
        have hB0 := hB
        have hB := hB.adv hlt
        refine e_aload_n dX6_readCompared_40 rfl ?_
        refine e_aload_n dX6_readCompared_41 rfl ?_
        refine e_iload_n dX6_readCompared_42 rfl ?_
        refine c_V2v (nc := 0) (ns := 0) (mc := 0) (ms := 0) (N := mX6_readSum) dX6_readCompared_43 lv_X6_79 mo_X6_readSum hA.cn (Nat.le_of_ble_eq_true rfl) (Nat.le_of_ble_eq_true rfl) (by omega) (hf _ _ hB hA) (fun h hP => ?_)
        have hA := hP
        have hB := hB.gr (hG _)
        refine e_aload_n dX6_readCompared_46 rfl ?_
        refine e_get dX6_readCompared_47 fl_X6_14_6 hA.1 rfl ?_
        refine e_iload_n dX6_readCompared_50 rfl ?_
        refine e_ineg dX6_readCompared_51 ?_
        refine c_V1v (nc := 0) (ns := 0) (mc := 0) (ms := 0) (N := mX5_add) dX6_readCompared_52 lv_X6_73 mo_X5_add hA.cnS (Nat.le_of_ble_eq_true rfl) (Nat.le_of_ble_eq_true rfl) (by omega) (k_cadd D hX hA (20004) ((-(hrP tp L (f y)))) (by rw [hcq27]; decide) (PB.len hPL.1 hL50)) (fun h hP => ?_)
        have hA := hP
        have e7 : oCm (hrP tp L (f y)) = 20004 := by unfold oCm; rw [if_neg hcq15, if_neg hcq21, if_pos hcq27]
        have e8 : lvP tp L oCm f 1 y = cdP 20004 (f (adP (f y))) := by rw [lvP, lpP, e7, if_neg (by decide), lpP]
        rw [e8] at hp
        exact e_vret dX6_readCompared_55 rfl (hp _ hA)
set_option maxRecDepth 20000 in
theorem cr_readBoth (D : En) {h0 : AH} {r u L : Nat} {tp : Nat → Int32} (hX : CT0 h0 r u L tp) {dq op : Nat} (hop : op ≤ 5) {f : PT → PT} (hf : RDc D dq mX6_readCompared h0 r u L op f) (hG : ∀ y, GR L u y (f y)) (hdq : 1 ≤ dq) {post : Option Value → AH → Prop} : ∀ (j k : Nat) (h : AH) (y : PT), (k + j = 50) → PB L y → PAc h0 r u h y → (∀ h', PAc h0 r u h' (lpP tp L oAn f j y) → post none h') → Ev D (dq + 1) mX6_readBoth 8 [some (.ref (r)), some (.ref (25)), some (.int (nI (op))), some (.int (nI (k)))] [] h 0 0 post := by
  obtain ⟨h97, hu3, hL50, ⟨ft, bt, hTp0, htp⟩, hXH, hby⟩ := id hX
  intro j
  induction j with
  | zero =>
    intro k h y hm hB hA hp
    refine e_iload_n dX6_readBoth_8 rfl ?_
    refine e_bipush (nI (50)) dX6_readBoth_9 (by decide) ?_
    refine e_icmp_geN 55 dX6_readBoth_11 (by decide) (by omega) (by omega) (fun hcq11 => ?_) (fun hcq11 => absurd hcq11 (by omega))
    exact e_vret dX6_readBoth_55 rfl (hp _ hA)
  | succ j ih =>
    intro k h y hm hB hA hp
    refine e_iload_n dX6_readBoth_8 rfl ?_
    refine e_bipush (nI (50)) dX6_readBoth_9 (by decide) ?_
    refine e_icmp_geN 55 dX6_readBoth_11 (by decide) (by omega) (by omega) (fun hcq11 => absurd hcq11 (by omega)) (fun hcq11 => ?_)
    refine e_aload_n dX6_readBoth_14 rfl ?_
    refine e_aload_n dX6_readBoth_15 rfl ?_
    refine c_V1iR (N := mX6_next) dX6_readBoth_16 lv_X6_69 mo_X6_next hA.cn (Nat.le_of_ble_eq_true rfl) (Nat.le_of_ble_eq_true rfl) (by omega) (k_next D hX hB hA) ?_
    refine e_bipush (nI (38)) dX6_readBoth_19 (by decide) ?_
    refine e_icmp_ne 55 dX6_readBoth_21 (by decide) (fun hcq21 => ?_) (fun hcq21 => ?_)
    · have e8 : lpP tp L oAn f (j + 1) y = y := by rw [lpP, if_pos]; unfold oAn; rw [if_neg hcq21]
      rw [e8] at hp
      exact e_vret dX6_readBoth_55 rfl (hp _ hA)
    · obtain ⟨hw, hlt⟩ := hrP_t (show ¬ hrP tp L y = -1 from fun z => absurd (hcq21.symm.trans z) (by decide))
      have hPL := PB.lp (q := 20001) hB hw (hG (adP y)) hlt
      refine e_aload_n dX6_readBoth_24 rfl ?_
      refine e_dup dX6_readBoth_25 rfl ?_
      refine e_get dX6_readBoth_26 fl_X6_24_6 hA.1 rfl ?_
      refine e_iconst (nI (1)) dX6_readBoth_29 (by decide) ?_
      refine e_iaddN dX6_readBoth_30 ?_
      refine e_put dX6_readBoth_31 fl_X6_24_6 ft_6 (fun q hq => Or.inl (by cases hq; rfl)) hA.1 (by show _ < 5; decide) rfl rfl ?_
      have hA := hA.adv hw
      have hB0 := hB
      have hB := hB.adv hlt
      refine e_aload_n dX6_readBoth_34 rfl ?_
      refine e_aload_n dX6_readBoth_35 rfl ?_
      refine e_iload_n dX6_readBoth_36 rfl ?_
      refine c_V2v (nc := 0) (ns := 0) (mc := 0) (ms := 0) (N := mX6_readCompared) dX6_readBoth_37 lv_X6_76 mo_X6_readCompared hA.cn (Nat.le_of_ble_eq_true rfl) (Nat.le_of_ble_eq_true rfl) (by omega) (hf _ _ hB hA) (fun h hP => ?_)
      have hA := hP
      have hB := hB.gr (hG _)
      refine e_aload_n dX6_readBoth_40 rfl ?_
      refine e_get dX6_readBoth_41 fl_X6_14_6 hA.1 rfl ?_
      refine e_bipush (((-38))) dX6_readBoth_44 (by decide) ?_
      refine c_V1v (nc := 0) (ns := 0) (mc := 0) (ms := 0) (N := mX5_add) dX6_readBoth_46 lv_X6_73 mo_X5_add hA.cnS (Nat.le_of_ble_eq_true rfl) (Nat.le_of_ble_eq_true rfl) (by omega) (k_cadd D hX hA (20001) (((-38))) (by decide) (PB.len hPL.1 hL50)) (fun h hP => ?_)
      have hA := hP
      have hB := hPL.1
      refine e_iincN (k + 1) dX6_readBoth_49 rfl (by decide) (nI_add _ _) ?_
      refine e_goto 8 dX6_readBoth_52 (by decide) ?_
      have e7 : oAn (hrP tp L y) = 20001 := by unfold oAn; rw [if_pos hcq21]
      have e8 : lpP tp L oAn f (j + 1) y = lpP tp L oAn f j (cdP 20001 (f (adP y))) := by rw [lpP, e7, if_neg (by decide)]
      rw [e8] at hp
      exact ih (k + 1) _ _ (by omega) hB hA hp
set_option maxRecDepth 20000 in
theorem k_readBoth (D : En) {h0 : AH} {r u L : Nat} {tp : Nat → Int32} (hX : CT0 h0 r u L tp) {dq op : Nat} (hop : op ≤ 5) {f : PT → PT} (hf : RDc D dq mX6_readCompared h0 r u L op f) (hG : ∀ y, GR L u y (f y)) (hdq : 1 ≤ dq) : RDc D (dq + 1) mX6_readBoth h0 r u L op (lvP tp L oAn f 50) := by
  obtain ⟨h97, hu3, hL50, ⟨ft, bt, hTp0, htp⟩, hXH, hby⟩ := id hX
  intro h y hB hA post hp
  show Ev D (dq + 1) mX6_readBoth 0 [some (.ref (r)), some (.ref (25)), some (.int (nI (op))), none] [] h 0 0 post
  refine e_aload_n dX6_readBoth_0 rfl ?_
  refine e_aload_n dX6_readBoth_1 rfl ?_
  refine e_iload_n dX6_readBoth_2 rfl ?_
  refine c_V2v (nc := 0) (ns := 0) (mc := 0) (ms := 0) (N := mX6_readCompared) dX6_readBoth_3 lv_X6_76 mo_X6_readCompared hA.cn (Nat.le_of_ble_eq_true rfl) (Nat.le_of_ble_eq_true rfl) (by omega) (hf _ _ hB hA) (fun h hP => ?_)
  have hA := hP
  have hB := hB.gr (hG _)
  refine e_iconst (nI (0)) dX6_readBoth_6 (by decide) ?_
  refine e_istore_n dX6_readBoth_7 (by decide) ?_
  exact cr_readBoth D hX hop hf hG hdq 50 0 _ _ (by omega) hB hA hp
set_option maxRecDepth 20000 in
theorem cr_readText (D : En) {h0 : AH} {r u L : Nat} {tp : Nat → Int32} (hX : CT0 h0 r u L tp) {dq op : Nat} (hop : op ≤ 5) {f : PT → PT} (hf : RDc D dq mX6_readBoth h0 r u L op f) (hG : ∀ y, GR L u y (f y)) (hdq : 1 ≤ dq) {post : Option Value → AH → Prop} : ∀ (j k : Nat) (h : AH) (y : PT), (k + j = 50) → PB L y → PAc h0 r u h y → (∀ h', PAc h0 r u h' (lpP tp L oOr f j y) → post none h') → Ev D (dq + 1) mX6_readText 8 [some (.ref (r)), some (.ref (25)), some (.int (nI (op))), some (.int (nI (k)))] [] h 0 0 post := by
  obtain ⟨h97, hu3, hL50, ⟨ft, bt, hTp0, htp⟩, hXH, hby⟩ := id hX
  intro j
  induction j with
  | zero =>
    intro k h y hm hB hA hp
    refine e_iload_n dX6_readText_8 rfl ?_
    refine e_bipush (nI (50)) dX6_readText_9 (by decide) ?_
    refine e_icmp_geN 55 dX6_readText_11 (by decide) (by omega) (by omega) (fun hcq11 => ?_) (fun hcq11 => absurd hcq11 (by omega))
    exact e_vret dX6_readText_55 rfl (hp _ hA)
  | succ j ih =>
    intro k h y hm hB hA hp
    refine e_iload_n dX6_readText_8 rfl ?_
    refine e_bipush (nI (50)) dX6_readText_9 (by decide) ?_
    refine e_icmp_geN 55 dX6_readText_11 (by decide) (by omega) (by omega) (fun hcq11 => absurd hcq11 (by omega)) (fun hcq11 => ?_)
    refine e_aload_n dX6_readText_14 rfl ?_
    refine e_aload_n dX6_readText_15 rfl ?_
    refine c_V1iR (N := mX6_next) dX6_readText_16 lv_X6_69 mo_X6_next hA.cn (Nat.le_of_ble_eq_true rfl) (Nat.le_of_ble_eq_true rfl) (by omega) (k_next D hX hB hA) ?_
    refine e_bipush (nI (124)) dX6_readText_19 (by decide) ?_
    refine e_icmp_ne 55 dX6_readText_21 (by decide) (fun hcq21 => ?_) (fun hcq21 => ?_)
    · have e8 : lpP tp L oOr f (j + 1) y = y := by rw [lpP, if_pos]; unfold oOr; rw [if_neg hcq21]
      rw [e8] at hp
      exact e_vret dX6_readText_55 rfl (hp _ hA)
    · obtain ⟨hw, hlt⟩ := hrP_t (show ¬ hrP tp L y = -1 from fun z => absurd (hcq21.symm.trans z) (by decide))
      have hPL := PB.lp (q := 20000) hB hw (hG (adP y)) hlt
      refine e_aload_n dX6_readText_24 rfl ?_
      refine e_dup dX6_readText_25 rfl ?_
      refine e_get dX6_readText_26 fl_X6_24_6 hA.1 rfl ?_
      refine e_iconst (nI (1)) dX6_readText_29 (by decide) ?_
      refine e_iaddN dX6_readText_30 ?_
      refine e_put dX6_readText_31 fl_X6_24_6 ft_6 (fun q hq => Or.inl (by cases hq; rfl)) hA.1 (by show _ < 5; decide) rfl rfl ?_
      have hA := hA.adv hw
      have hB0 := hB
      have hB := hB.adv hlt
      refine e_aload_n dX6_readText_34 rfl ?_
      refine e_aload_n dX6_readText_35 rfl ?_
      refine e_iload_n dX6_readText_36 rfl ?_
      refine c_V2v (nc := 0) (ns := 0) (mc := 0) (ms := 0) (N := mX6_readBoth) dX6_readText_37 lv_X6_66 mo_X6_readBoth hA.cn (Nat.le_of_ble_eq_true rfl) (Nat.le_of_ble_eq_true rfl) (by omega) (hf _ _ hB hA) (fun h hP => ?_)
      have hA := hP
      have hB := hB.gr (hG _)
      refine e_aload_n dX6_readText_40 rfl ?_
      refine e_get dX6_readText_41 fl_X6_14_6 hA.1 rfl ?_
      refine e_bipush (((-124))) dX6_readText_44 (by decide) ?_
      refine c_V1v (nc := 0) (ns := 0) (mc := 0) (ms := 0) (N := mX5_add) dX6_readText_46 lv_X6_73 mo_X5_add hA.cnS (Nat.le_of_ble_eq_true rfl) (Nat.le_of_ble_eq_true rfl) (by omega) (k_cadd D hX hA (20000) (((-124))) (by decide) (PB.len hPL.1 hL50)) (fun h hP => ?_)
      have hA := hP
      have hB := hPL.1
      refine e_iincN (k + 1) dX6_readText_49 rfl (by decide) (nI_add _ _) ?_
      refine e_goto 8 dX6_readText_52 (by decide) ?_
      have e7 : oOr (hrP tp L y) = 20000 := by unfold oOr; rw [if_pos hcq21]
      have e8 : lpP tp L oOr f (j + 1) y = lpP tp L oOr f j (cdP 20000 (f (adP y))) := by rw [lpP, e7, if_neg (by decide)]
      rw [e8] at hp
      exact ih (k + 1) _ _ (by omega) hB hA hp
set_option maxRecDepth 20000 in
theorem k_readText (D : En) {h0 : AH} {r u L : Nat} {tp : Nat → Int32} (hX : CT0 h0 r u L tp) {dq op : Nat} (hop : op ≤ 5) {f : PT → PT} (hf : RDc D dq mX6_readBoth h0 r u L op f) (hG : ∀ y, GR L u y (f y)) (hdq : 1 ≤ dq) : RDc D (dq + 1) mX6_readText h0 r u L op (lvP tp L oOr f 50) := by
  obtain ⟨h97, hu3, hL50, ⟨ft, bt, hTp0, htp⟩, hXH, hby⟩ := id hX
  intro h y hB hA post hp
  show Ev D (dq + 1) mX6_readText 0 [some (.ref (r)), some (.ref (25)), some (.int (nI (op))), none] [] h 0 0 post
  refine e_aload_n dX6_readText_0 rfl ?_
  refine e_aload_n dX6_readText_1 rfl ?_
  refine e_iload_n dX6_readText_2 rfl ?_
  refine c_V2v (nc := 0) (ns := 0) (mc := 0) (ms := 0) (N := mX6_readBoth) dX6_readText_3 lv_X6_66 mo_X6_readBoth hA.cn (Nat.le_of_ble_eq_true rfl) (Nat.le_of_ble_eq_true rfl) (by omega) (hf _ _ hB hA) (fun h hP => ?_)
  have hA := hP
  have hB := hB.gr (hG _)
  refine e_iconst (nI (0)) dX6_readText_6 (by decide) ?_
  refine e_istore_n dX6_readText_7 (by decide) ?_
  exact cr_readText D hX hop hf hG hdq 50 0 _ _ (by omega) hB hA hp
theorem k_levels (D : En) {h0 : AH} {r u L : Nat} {tp : Nat → Int32} (hX : CT0 h0 r u L tp) {dq op : Nat} (hop : op ≤ 5) {f : PT → PT} (hf : RDc D dq mX6_readPart h0 r u L op f) (hG : ∀ y, GR L u y (f y)) (hdq : 1 ≤ dq) : RDc D (dq + 5) mX6_readText h0 r u L op (eiW tp L f) :=
  k_readText D hX hop (k_readBoth D hX hop (k_readCompared D hX hop (k_readSum D hX hop (k_readProduct D hX hop hf hG hdq) (GR_pr hG) (by omega)) (GR_su hG) (by omega)) (GR_cm hG) (by omega)) (GR_bo hG) (by omega)
