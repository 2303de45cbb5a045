theorem updUpd (f : Nat → Int32) (k : Nat) (x y : Int32) : upd (upd f k x) k y = upd f k y := by
  funext j
  by_cases e : j = k
  · subst e; rw [pk_us, pk_us]
  · rw [pk_un e, pk_un e, pk_un e]
set_option maxRecDepth 20000 in
theorem s_drawn (D : En) {h : AH} {N : Nat → Int32} {σ : Nat → Nat → Int32} {τ : Nat → Int32} (hR : RefAt h N σ τ) (b : Nat) (hb : 0 < b) (hb2 : b < 1000) : Sp D 0 mX12_drawn [.ref (82), .int (nI (b))] h 0 0 (some (.int (drV (drZ (N 5)) (nI b)))) (fun h' => RefAt h' (upd N 5 (drZ (N 5))) σ τ ∧ FrR h h') := by
  intro post hp
  show Ev D 0 mX12_drawn 0 [some (.ref (82)), some (.int (nI (b)))] [] h 0 0 post
  have hF : FrR h h := FrR.rf
  refine e_aload_n dX12_drawn_0 rfl ?_
  refine e_get dX12_drawn_1 fl_X12_9_12 hR.1 rfl ?_
  refine e_iconst (nI (5)) dX12_drawn_4 (by decide) ?_
  refine e_aload_n dX12_drawn_5 rfl ?_
  refine e_get dX12_drawn_6 fl_X12_9_12 hR.1 rfl ?_
  refine e_iconst (nI (5)) dX12_drawn_9 (by decide) ?_
  refine e_ild (5) ((N (5))) dX12_drawn_10 hR.2.1 rfl (by omega) (by decide) rfl ?_
  refine e_ldc dX12_drawn_11 w_1349 ?_
  refine e_top (nI 1103515245) (by decide) ?_
  refine e_imul dX12_drawn_13 ?_
  refine e_sipush (nI (12345)) dX12_drawn_14 (by decide) ?_
  refine e_iadd dX12_drawn_17 ?_
  refine r_stN (5) dX12_drawn_18 hR hF rfl (by omega) (fun h hR hF => ?_)
  refine e_aload_n dX12_drawn_19 rfl ?_
  refine e_get dX12_drawn_20 fl_X12_9_12 hR.1 rfl ?_
  refine e_iconst (nI (5)) dX12_drawn_23 (by decide) ?_
  refine e_ild (5) ((drZ (N 5))) dX12_drawn_24 hR.2.1 rfl (by omega) (by decide) pk_us ?_
  refine e_bipush (nI (8)) dX12_drawn_25 (by decide) ?_
  refine e_iushr dX12_drawn_27 ?_
  refine e_iload_n dX12_drawn_28 rfl ?_
  refine e_irem dX12_drawn_29 (nI_ne0 hb (by omega)) ?_
  exact e_iret dX12_drawn_30 rfl (hp _ ⟨hR, hF⟩)
set_option maxRecDepth 20000 in
theorem lp_made (D : En) {s : SS} {τ : Nat → Int32} {h00 : AH} (hI : INV s) {post : Option Value → AH → Prop} {σ : Nat → Nat → Int32} (n : Int32) (hn_n : n = nI (tn n)) (hle : nvN (sN s) + tn n ≤ 8) (hp : ∀ h', RefAt h' (mdN (sN s) (nvN (sN s)) (tn n)) σ τ → FrR h00 h' → post (some (.int (nI (nvN (sN s) + tn n)))) h') : ∀ (j : Nat) (k : Nat) (h : AH) (M : Nat → Int32), (k + j = tn n) → (RefAt h M σ τ) → (FrR h00 h) → (M = mdN (sN s) (nvN (sN s)) k) → (M 1 = nI (nvN (sN s) + k)) → Ev D 1 mX12_made 39 [some (.ref (82)), some (.int (n)), some (.int (nI (k))), none, none, none, none] [] h 0 0 post := by
  intro j
  induction j with
  | zero =>
    intro k h M hm hR hF hM hv1
    refine e_iload_n dX12_made_39 rfl ?_
    refine e_iload_n dX12_made_40 rfl ?_
    refine e_top (nI (tn n)) (hn_n) ?_
    refine e_icmp_geN 104 dX12_made_41 (by decide) (by omega) (by omega) (fun hcq41 => ?_) (fun hcq41 => absurd hcq41 (by omega))
    refine e_aload_n dX12_made_104 rfl ?_
    refine e_get dX12_made_105 fl_X12_9_12 hR.1 rfl ?_
    refine e_iconst (nI (1)) dX12_made_108 (by decide) ?_
    refine e_ild (1) (nI (nvN (sN s) + k)) dX12_made_109 hR.2.1 rfl (by omega) (by decide) hv1 ?_
    have e9 : tn n = k := by omega
    rw [e9] at hp
    exact e_iret dX12_made_110 rfl (hp _ (by rw [← hM]; exact hR) hF)
  | succ j ih =>
    intro k h M hm hR hF hM hv1
    refine e_iload_n dX12_made_39 rfl ?_
    refine e_iload_n dX12_made_40 rfl ?_
    refine e_top (nI (tn n)) (hn_n) ?_
    refine e_icmp_geN 104 dX12_made_41 (by decide) (by omega) (by omega) (fun hcq41 => absurd hcq41 (by omega)) (fun hcq41 => ?_)
    refine e_aload_n dX12_made_44 rfl ?_
    refine e_bipush (nI (31)) dX12_made_45 (by decide) ?_
    refine c_V1i (nc := 0) (ns := 0) (mc := 0) (ms := 0) (N := mX12_drawn) dX12_made_47 lv_X12_121 mo_X12_drawn hR.cn (Nat.le_of_ble_eq_true rfl) (Nat.le_of_ble_eq_true rfl) (by decide) (s_drawn D hR 31 (by decide) (by decide)) (fun h hP => ?_)
    obtain ⟨hR, hF1⟩ := hP
    have hF := hF.trans hF1
    refine e_istore_n dX12_made_50 (by decide) ?_
    refine e_aload_n dX12_made_51 rfl ?_
    refine e_bipush (nI (31)) dX12_made_52 (by decide) ?_
    refine c_V1i (nc := 0) (ns := 0) (mc := 0) (ms := 0) (N := mX12_drawn) dX12_made_54 lv_X12_121 mo_X12_drawn hR.cn (Nat.le_of_ble_eq_true rfl) (Nat.le_of_ble_eq_true rfl) (by decide) (s_drawn D hR 31 (by decide) (by decide)) (fun h hP => ?_)
    obtain ⟨hR, hF1⟩ := hP
    have hF := hF.trans hF1
    rw [updUpd, pk_us] at hR
    refine e_top (drV (drZ (drZ (M 5))) (nI 31)) (by rw [pk_us]) ?_
    refine e_istore dX12_made_57 (by decide) ?_
    refine e_aload_n dX12_made_59 rfl ?_
    refine e_bipush (nI (100)) dX12_made_60 (by decide) ?_
    refine c_V1i (nc := 0) (ns := 0) (mc := 0) (ms := 0) (N := mX12_drawn) dX12_made_62 lv_X12_121 mo_X12_drawn hR.cn (Nat.le_of_ble_eq_true rfl) (Nat.le_of_ble_eq_true rfl) (by decide) (s_drawn D hR 100 (by decide) (by decide)) (fun h hP => ?_)
    obtain ⟨hR, hF1⟩ := hP
    have hF := hF.trans hF1
    rw [updUpd, pk_us] at hR
    refine e_top (drV (drZ (drZ (drZ (M 5)))) (nI 100)) (by rw [pk_us]) ?_
    refine e_istore dX12_made_65 (by decide) ?_
    refine e_aload_n dX12_made_67 rfl ?_
    refine e_sipush (nI (300)) dX12_made_68 (by decide) ?_
    refine c_V1i (nc := 0) (ns := 0) (mc := 0) (ms := 0) (N := mX12_drawn) dX12_made_71 lv_X12_121 mo_X12_drawn hR.cn (Nat.le_of_ble_eq_true rfl) (Nat.le_of_ble_eq_true rfl) (by decide) (s_drawn D hR 300 (by decide) (by decide)) (fun h hP => ?_)
    obtain ⟨hR, hF1⟩ := hP
    have hF := hF.trans hF1
    rw [updUpd, pk_us] at hR
    refine e_top (drV (drZ (drZ (drZ (drZ (M 5))))) (nI 300)) (by rw [pk_us]) ?_
    refine e_istore dX12_made_74 (by decide) ?_
    refine e_aload_n dX12_made_76 rfl ?_
    refine e_bipush (nI (100)) dX12_made_77 (by decide) ?_
    refine e_iload_n dX12_made_79 rfl ?_
    refine e_imul dX12_made_80 ?_
    refine e_iload dX12_made_81 rfl ?_
    refine e_iadd dX12_made_83 ?_
    refine e_iload dX12_made_84 rfl ?_
    refine e_iload dX12_made_86 rfl ?_
    refine e_aload_n dX12_made_88 rfl ?_
    refine e_sipush (nI (200)) dX12_made_89 (by decide) ?_
    refine c_V1i (nc := 0) (ns := 0) (mc := 0) (ms := 0) (N := mX12_drawn) dX12_made_92 lv_X12_121 mo_X12_drawn hR.cn (Nat.le_of_ble_eq_true rfl) (Nat.le_of_ble_eq_true rfl) (by decide) (s_drawn D hR 200 (by decide) (by decide)) (fun h hP => ?_)
    obtain ⟨hR, hF1⟩ := hP
    have hF := hF.trans hF1
    rw [updUpd, pk_us] at hR
    refine e_top (drV (drZ (drZ (drZ (drZ (drZ (M 5)))))) (nI 200)) (by rw [pk_us]) ?_
    refine c_V4v (nc := 0) (ns := 0) (mc := 0) (ms := 0) (N := mX12_settles) dX12_made_95 lv_X12_95 mo_X12_settles hR.cn (Nat.le_of_ble_eq_true rfl) (Nat.le_of_ble_eq_true rfl) (by decide) (s_settles D hR (nvN (sN s) + k) (by omega) ((pk_un (by decide)).trans hv1) (((nI (100) * (drV (drZ (M 5)) (nI 31))) + (drV (drZ (drZ (M 5))) (nI 31)))) ((drV (drZ (drZ (drZ (M 5)))) (nI 100))) ((drV (drZ (drZ (drZ (drZ (M 5))))) (nI 300))) ((drV (drZ (drZ (drZ (drZ (drZ (M 5)))))) (nI 200)))) (fun h hP => ?_)
    obtain ⟨hR, hF1⟩ := hP
    have hF := hF.trans hF1
    refine e_iincN (k + 1) dX12_made_98 rfl (by decide) (nI_add _ _) ?_
    refine e_goto 39 dX12_made_101 (by decide) ?_
    refine Ev.drop 3 (Ev.drop 4 (Ev.drop 5 (Ev.drop 6 ?_)))
    exact ih (k + 1) h _ (by omega) hR hF (by rw [mdN, ← hM]; rfl) pk_us
set_option maxRecDepth 20000 in
theorem rp_made (D : En) {h : AH} {s : SS} (hI : INV s) (hRS : RefS h s) (n : Int32) : Sp D 1 mX12_made [.ref (82), .int (n)] h 0 0 (some (.int (f_made s n).1)) (fun h' => RefS h' (f_made s n).2 ∧ FrR h h') := by
  obtain ⟨σ, τ, hR, hS⟩ := hRS
  have hY := hI.1.1
  have hnv := hY.2.1
  have htc10 := hY.2.2.2.1
  obtain ⟨h00, hh00⟩ : ∃ z, z = h := ⟨_, rfl⟩
  have hF : FrR h00 h := by rw [hh00]; exact FrR.rf
  intro post hp
  rw [← hh00] at hp
  show Ev D 1 mX12_made 0 [some (.ref (82)), some (.int (n)), none, none, none, none, none] [] h 0 0 post
  refine e_iload_n dX12_made_0 rfl ?_
  refine e_iconst (nI (1)) dX12_made_1 (by decide) ?_
  refine e_bipush (nI (8)) dX12_made_2 (by decide) ?_
  refine c_S3iR (N := mX12_within) dX12_made_4 ls_X12_76 mo_X12_within  (Nat.le_of_ble_eq_true rfl) (Nat.le_of_ble_eq_true rfl) (by decide) (s_within D ((n)) (nI (1)) (nI (8))) ?_
  refine e_if_neB 17 dX12_made_7 (by decide) (fun hcq7 => ?_) (fun hcq7 => ?_)
  · obtain ⟨hn_n, hg_n, hl_n⟩ := wiN hcq7 (by decide) (by decide)
    refine e_aload_n dX12_made_17 rfl ?_
    refine e_get dX12_made_18 fl_X12_9_12 hR.1 rfl ?_
    refine e_iconst (nI (1)) dX12_made_21 (by decide) ?_
    refine e_ild (1) (nI (nvN (sN s))) dX12_made_22 hR.2.1 rfl (by omega) (by decide) hY.1 ?_
    refine e_iload_n dX12_made_23 rfl ?_
    refine e_top (nI (tn n)) (hn_n) ?_
    refine e_iaddN dX12_made_24 ?_
    refine e_bipush (nI (8)) dX12_made_25 (by decide) ?_
    refine e_icmp_leN 37 dX12_made_27 (by decide) (by omega) (by omega) (fun hcq27 => ?_) (fun hcq27 => ?_)
    · refine e_iconst (nI (0)) dX12_made_37 (by decide) ?_
      refine e_istore_n dX12_made_38 (by decide) ?_
      refine lp_made D hI n hn_n hcq27 (fun h9 a9 b9 => ?_) (tn n) 0 h (sN s) (by omega) hR hF rfl hY.1
      have e9 : f_made s n = (nI (nvN (sN s) + tn n), wN s (mdN (sN s) (nvN (sN s)) (tn n))) := by rw [f_made, if_pos hcq7, if_neg (Nat.not_lt.mpr hcq27)]
      rw [e9] at hp
      exact hp _ ⟨⟨_, _, a9, hS⟩, b9⟩
    · refine e_aload_n dX12_made_30 rfl ?_
      refine e_ldc dX12_made_31 w_1300 ?_
      refine c_V1i (nc := 0) (ns := 0) (mc := 0) (ms := 0) (N := mX12_finding) dX12_made_33 lv_X12_90 mo_X12_finding hR.cn (Nat.le_of_ble_eq_true rfl) (Nat.le_of_ble_eq_true rfl) (by decide) (s_finding D hR 4 (by decide) (((-1000000004))) fE4) (fun h hP => ?_)
      obtain ⟨hR, hF1⟩ := hP
      have hF := hF.trans hF1
      have hS := hS.er 4
      refine e_top (lowE 4) lE4 ?_
      have e9 : f_made s n = er 4 (s) := by rw [f_made, if_pos hcq7, if_pos hcq27]
      rw [e9] at hp
      exact e_iret dX12_made_36 rfl (hp _ ⟨⟨_, _, hR, hS⟩, hF⟩)
  · refine e_aload_n dX12_made_10 rfl ?_
    refine e_ldc dX12_made_11 w_1294 ?_
    refine c_V1i (nc := 0) (ns := 0) (mc := 0) (ms := 0) (N := mX12_finding) dX12_made_13 lv_X12_90 mo_X12_finding hR.cn (Nat.le_of_ble_eq_true rfl) (Nat.le_of_ble_eq_true rfl) (by decide) (s_finding D hR 1 (by decide) (((-1000000001))) fE1) (fun h hP => ?_)
    obtain ⟨hR, hF1⟩ := hP
    have hF := hF.trans hF1
    have hS := hS.er 1
    refine e_top (lowE 1) lE1 ?_
    have e9 : f_made s n = er 1 (s) := by rw [f_made, if_neg hcq7]
    rw [e9] at hp
    exact e_iret dX12_made_16 rfl (hp _ ⟨⟨_, _, hR, hS⟩, hF⟩)
set_option maxRecDepth 20000 in
theorem lp_vil (D : En) {s : SS} {τ : Nat → Int32} {h00 : AH} (hI : INV s) {post : Option Value → AH → Prop} {σ : Nat → Nat → Int32} (hS : RS σ τ s) (g : Int32) (hn_g : g = nI (tn g)) (hg4 : tn g < 4) : ∀ (j : Nat) (n v : Nat) (h : AH) (M : Nat → Int32), (n + j = 11) → (RefAt h M σ τ) → (FrR h00 h) → (M 1 = nI v) → (v ≤ 8) → (∀ h', RefAt h' (viW (sQ s) (40 * tn g) (tn (sZ s (tn g))) j n v M).2 σ τ → FrR h00 h' → post (some (.int (nI (viW (sQ s) (40 * tn g) (tn (sZ s (tn g))) j n v M).1))) h') → Ev D 3 mX12_villages 37 [some (.ref (82)), some (.int (g)), some (.int (nI (n))), some (.int (nI (40 * tn g + 4 * n)))] [] h 0 0 post := by
  intro j
  induction j with
  | zero =>
    intro n v h M hm hR hF hv1 hv8 hp
    have hz9 := (hI.2.2 _ hg4).2
    refine e_iconst (nI (4)) dX12_villages_37 (by decide) ?_
    refine e_iload_n dX12_villages_38 rfl ?_
    refine e_imulN dX12_villages_39 ?_
    refine e_iconst (nI (4)) dX12_villages_40 (by decide) ?_
    refine e_iaddN dX12_villages_41 ?_
    refine e_aload_n dX12_villages_42 rfl ?_
    refine e_get dX12_villages_43 fl_X12_66_12 hR.1 rfl ?_
    refine e_iload_n dX12_villages_46 rfl ?_
    refine e_top (nI (tn g)) (hn_g) ?_
    refine e_ild (tn g) (nI (tn (sZ s (tn g)))) dX12_villages_47 (hR.2.2.1 15 (by decide) (by decide) (by decide)) rfl (by show _ < 4; omega) (by decide) (by rw [hS.1.2.2.2.2.1]; exact (hI.2.2 _ (by omega)).1) ?_
    refine e_icmp_gtN 143 dX12_villages_48 (by decide) (by omega) (by omega) (fun hcq48 => ?_) (fun hcq48 => absurd hcq48 (by omega))
    refine e_iload_n dX12_villages_143 rfl ?_
    exact e_iret dX12_villages_144 rfl (hp _ hR hF)
  | succ j ih =>
    intro n v h M hm hR hF hv1 hv8 hp
    have hz9 := (hI.2.2 _ hg4).2
    refine e_iconst (nI (4)) dX12_villages_37 (by decide) ?_
    refine e_iload_n dX12_villages_38 rfl ?_
    refine e_imulN dX12_villages_39 ?_
    refine e_iconst (nI (4)) dX12_villages_40 (by decide) ?_
    refine e_iaddN dX12_villages_41 ?_
    refine e_aload_n dX12_villages_42 rfl ?_
    refine e_get dX12_villages_43 fl_X12_66_12 hR.1 rfl ?_
    refine e_iload_n dX12_villages_46 rfl ?_
    refine e_top (nI (tn g)) (hn_g) ?_
    refine e_ild (tn g) (nI (tn (sZ s (tn g)))) dX12_villages_47 (hR.2.2.1 15 (by decide) (by decide) (by decide)) rfl (by show _ < 4; omega) (by decide) (by rw [hS.1.2.2.2.2.1]; exact (hI.2.2 _ (by omega)).1) ?_
    refine e_icmp_gtN 143 dX12_villages_48 (by decide) (by omega) (by omega) (fun hcq48 => ?_) (fun hcq48 => ?_)
    · refine e_iload_n dX12_villages_143 rfl ?_
      exact e_iret dX12_villages_144 rfl (by rw [show viW (sQ s) (40 * tn g) (tn (sZ s (tn g))) (j + 1) n v M = (n, M) from by rw [viW, if_neg (by omega)]] at hp; exact hp _ hR hF)
    · refine e_aload_n dX12_villages_51 rfl ?_
      refine e_get dX12_villages_52 fl_X12_9_12 hR.1 rfl ?_
      refine e_iconst (nI (1)) dX12_villages_55 (by decide) ?_
      refine e_ild (1) (nI (v)) dX12_villages_56 hR.2.1 rfl (by omega) (by decide) hv1 ?_
      refine e_bipush (nI (8)) dX12_villages_57 (by decide) ?_
      refine e_icmp_geN 143 dX12_villages_59 (by decide) (by omega) (by omega) (fun hcq59 => ?_) (fun hcq59 => ?_)
      · refine e_iload_n dX12_villages_143 rfl ?_
        exact e_iret dX12_villages_144 rfl (by rw [show viW (sQ s) (40 * tn g) (tn (sZ s (tn g))) (j + 1) n v M = (n, M) from by rw [viW, if_pos (by omega), if_neg (Nat.not_lt.mpr hcq59)]] at hp; exact hp _ hR hF)
      · refine e_aload_n dX12_villages_62 rfl ?_
        refine e_get dX12_villages_63 fl_X12_69_12 hR.1 rfl ?_
        refine e_iload_n dX12_villages_66 rfl ?_
        refine e_ild (40 * tn g + 4 * n) ((sQ s (40 * tn g + 4 * n))) dX12_villages_67 (hR.2.2.1 16 (by decide) (by decide) (by decide)) rfl (by show _ < 160; omega) (by decide) (by rw [hS.1.2.2.2.2.2]) ?_
        refine e_aload_n dX12_villages_68 rfl ?_
        refine e_get dX12_villages_69 fl_X12_69_12 hR.1 rfl ?_
        refine e_iload_n dX12_villages_72 rfl ?_
        refine e_iconst (nI (1)) dX12_villages_73 (by decide) ?_
        refine e_iaddN dX12_villages_74 ?_
        refine e_ild ((40 * tn g + 4 * n) + 1) ((sQ s ((40 * tn g + 4 * n) + 1))) dX12_villages_75 (hR.2.2.1 16 (by decide) (by decide) (by decide)) rfl (by show _ < 160; omega) (by decide) (by rw [hS.1.2.2.2.2.2]) ?_
        refine e_aload_n dX12_villages_76 rfl ?_
        refine e_get dX12_villages_77 fl_X12_69_12 hR.1 rfl ?_
        refine e_iload_n dX12_villages_80 rfl ?_
        refine e_iconst (nI (2)) dX12_villages_81 (by decide) ?_
        refine e_iaddN dX12_villages_82 ?_
        refine e_ild ((40 * tn g + 4 * n) + 2) ((sQ s ((40 * tn g + 4 * n) + 2))) dX12_villages_83 (hR.2.2.1 16 (by decide) (by decide) (by decide)) rfl (by show _ < 160; omega) (by decide) (by rw [hS.1.2.2.2.2.2]) ?_
        refine e_aload_n dX12_villages_84 rfl ?_
        refine e_get dX12_villages_85 fl_X12_69_12 hR.1 rfl ?_
        refine e_iload_n dX12_villages_88 rfl ?_
        refine e_iconst (nI (3)) dX12_villages_89 (by decide) ?_
        refine e_iaddN dX12_villages_90 ?_
        refine e_ild ((40 * tn g + 4 * n) + 3) ((sQ s ((40 * tn g + 4 * n) + 3))) dX12_villages_91 (hR.2.2.1 16 (by decide) (by decide) (by decide)) rfl (by show _ < 160; omega) (by decide) (by rw [hS.1.2.2.2.2.2]) ?_
        refine c_S4iR (N := mX12_isAsTold) dX12_villages_92 ls_X12_85 mo_X12_isAsTold  (Nat.le_of_ble_eq_true rfl) (Nat.le_of_ble_eq_true rfl) (by decide) (s_isAsTold D ((sQ s (40 * tn g + 4 * n))) ((sQ s ((40 * tn g + 4 * n) + 1))) ((sQ s ((40 * tn g + 4 * n) + 2))) ((sQ s ((40 * tn g + 4 * n) + 3)))) ?_
        refine e_if_neB 100 dX12_villages_95 (by decide) (fun hcq95 => ?_) (fun hcq95 => ?_)
        · refine e_aload_n dX12_villages_100 rfl ?_
          refine e_aload_n dX12_villages_101 rfl ?_
          refine e_get dX12_villages_102 fl_X12_69_12 hR.1 rfl ?_
          refine e_iload_n dX12_villages_105 rfl ?_
          refine e_ild (40 * tn g + 4 * n) ((sQ s (40 * tn g + 4 * n))) dX12_villages_106 (hR.2.2.1 16 (by decide) (by decide) (by decide)) rfl (by show _ < 160; omega) (by decide) (by rw [hS.1.2.2.2.2.2]) ?_
          refine e_aload_n dX12_villages_107 rfl ?_
          refine e_get dX12_villages_108 fl_X12_69_12 hR.1 rfl ?_
          refine e_iload_n dX12_villages_111 rfl ?_
          refine e_iconst (nI (1)) dX12_villages_112 (by decide) ?_
          refine e_iaddN dX12_villages_113 ?_
          refine e_ild ((40 * tn g + 4 * n) + 1) ((sQ s ((40 * tn g + 4 * n) + 1))) dX12_villages_114 (hR.2.2.1 16 (by decide) (by decide) (by decide)) rfl (by show _ < 160; omega) (by decide) (by rw [hS.1.2.2.2.2.2]) ?_
          refine e_aload_n dX12_villages_115 rfl ?_
          refine e_get dX12_villages_116 fl_X12_69_12 hR.1 rfl ?_
          refine e_iload_n dX12_villages_119 rfl ?_
          refine e_iconst (nI (2)) dX12_villages_120 (by decide) ?_
          refine e_iaddN dX12_villages_121 ?_
          refine e_ild ((40 * tn g + 4 * n) + 2) ((sQ s ((40 * tn g + 4 * n) + 2))) dX12_villages_122 (hR.2.2.1 16 (by decide) (by decide) (by decide)) rfl (by show _ < 160; omega) (by decide) (by rw [hS.1.2.2.2.2.2]) ?_
          refine e_aload_n dX12_villages_123 rfl ?_
          refine e_get dX12_villages_124 fl_X12_69_12 hR.1 rfl ?_
          refine e_iload_n dX12_villages_127 rfl ?_
          refine e_iconst (nI (3)) dX12_villages_128 (by decide) ?_
          refine e_iaddN dX12_villages_129 ?_
          refine e_ild ((40 * tn g + 4 * n) + 3) ((sQ s ((40 * tn g + 4 * n) + 3))) dX12_villages_130 (hR.2.2.1 16 (by decide) (by decide) (by decide)) rfl (by show _ < 160; omega) (by decide) (by rw [hS.1.2.2.2.2.2]) ?_
          refine c_V4v (nc := 0) (ns := 0) (mc := 0) (ms := 0) (N := mX12_settles) dX12_villages_131 lv_X12_95 mo_X12_settles hR.cn (Nat.le_of_ble_eq_true rfl) (Nat.le_of_ble_eq_true rfl) (by decide) (s_settles D hR v (by omega) hv1 ((sQ s (40 * tn g + 4 * n))) ((sQ s ((40 * tn g + 4 * n) + 1))) ((sQ s ((40 * tn g + 4 * n) + 2))) ((sQ s ((40 * tn g + 4 * n) + 3)))) (fun h hP => ?_)
          obtain ⟨hR, hF1⟩ := hP
          have hF := hF.trans hF1
          refine e_iincN (n + 1) dX12_villages_134 rfl (by decide) (nI_add _ _) ?_
          refine e_iincN (40 * tn g + 4 * n + 4) dX12_villages_137 rfl (by decide) (nI_add _ _) ?_
          refine e_goto 37 dX12_villages_140 (by decide) ?_
          exact ih (n + 1) (v + 1) h _ (by omega) hR hF pk_us (by omega) (fun h9 a9 b9 => by rw [viW, if_pos (by omega), if_pos hcq59, if_pos hcq95] at hp; exact hp h9 a9 b9)
        · refine e_iload_n dX12_villages_98 rfl ?_
          exact e_iret dX12_villages_99 rfl (by rw [show viW (sQ s) (40 * tn g) (tn (sZ s (tn g))) (j + 1) n v M = (n, M) from by rw [viW, if_pos (by omega), if_pos hcq59, if_neg hcq95]] at hp; exact hp _ hR hF)
set_option maxRecDepth 20000 in
theorem rp_villages (D : En) {h : AH} {s : SS} (hI : INV s) (hRS : RefS h s) (g : Int32) : Sp D 3 mX12_villages [.ref (82), .int (g)] h 0 0 (some (.int (f_villages s g).1)) (fun h' => RefS h' (f_villages s g).2 ∧ FrR h h') := by
  obtain ⟨σ, τ, hR, hS⟩ := hRS
  have hY := hI.1.1
  have hnv := hY.2.1
  have htc10 := hY.2.2.2.1
  obtain ⟨h00, hh00⟩ : ∃ z, z = h := ⟨_, rfl⟩
  have hF : FrR h00 h := by rw [hh00]; exact FrR.rf
  intro post hp
  rw [← hh00] at hp
  show Ev D 3 mX12_villages 0 [some (.ref (82)), some (.int (g)), none, none] [] h 0 0 post
  refine e_iload_n dX12_villages_0 rfl ?_
  refine c_S1iR (N := mX12_isSheet) dX12_villages_1 ls_X12_116 mo_X12_isSheet  (Nat.le_of_ble_eq_true rfl) (Nat.le_of_ble_eq_true rfl) (by decide) (s_isSheet D ((g))) ?_
  refine e_if_neB 14 dX12_villages_4 (by decide) (fun hcq4 => ?_) (fun hcq4 => ?_)
  · obtain ⟨hn_g, hg_g, hl_g⟩ := wiN hcq4 (by decide) (by decide)
    refine e_aload_n dX12_villages_14 rfl ?_
    refine e_get dX12_villages_15 fl_X12_63_12 hR.1 rfl ?_
    refine e_iload_n dX12_villages_18 rfl ?_
    refine e_top (nI (tn g)) (hn_g) ?_
    refine e_ild (tn g) ((sW s (tn g))) dX12_villages_19 (hR.2.2.1 14 (by decide) (by decide) (by decide)) rfl (by show _ < 4; omega) (by decide) (by rw [hS.1.2.2.2.1]) ?_
    refine e_if_ne 30 dX12_villages_20 (by decide) (fun hcq20 => ?_) (fun hcq20 => ?_)
    · refine e_iconst (nI (0)) dX12_villages_30 (by decide) ?_
      refine e_istore_n dX12_villages_31 (by decide) ?_
      refine e_bipush (nI (40)) dX12_villages_32 (by decide) ?_
      refine e_iload_n dX12_villages_34 rfl ?_
      refine e_top (nI (tn g)) (hn_g) ?_
      refine e_imulN dX12_villages_35 ?_
      refine e_istore_n dX12_villages_36 (by decide) ?_
      refine lp_vil D hI hS g hn_g (by omega) 11 0 (nvN (sN s)) h (sN s) (by omega) hR hF hY.1 hnv (fun h9 a9 b9 => ?_)
      have e9 : f_villages s g = (nI (viS s (tn g)).1, wN s (viS s (tn g)).2) := by rw [f_villages, if_pos hcq4, if_neg hcq20]
      rw [e9] at hp
      exact hp _ ⟨⟨_, _, a9, hS⟩, b9⟩
    · refine e_aload_n dX12_villages_23 rfl ?_
      refine e_ldc dX12_villages_24 w_1340 ?_
      refine c_V1i (nc := 0) (ns := 0) (mc := 0) (ms := 0) (N := mX12_finding) dX12_villages_26 lv_X12_90 mo_X12_finding hR.cn (Nat.le_of_ble_eq_true rfl) (Nat.le_of_ble_eq_true rfl) (by decide) (s_finding D hR 2 (by decide) (((-1000000002))) fE2) (fun h hP => ?_)
      obtain ⟨hR, hF1⟩ := hP
      have hF := hF.trans hF1
      have hS := hS.er 2
      refine e_top (lowE 2) lE2 ?_
      have e9 : f_villages s g = er 2 (s) := by rw [f_villages, if_pos hcq4, if_pos hcq20]
      rw [e9] at hp
      exact e_iret dX12_villages_29 rfl (hp _ ⟨⟨_, _, hR, hS⟩, hF⟩)
  · refine e_aload_n dX12_villages_7 rfl ?_
    refine e_ldc dX12_villages_8 w_1294 ?_
    refine c_V1i (nc := 0) (ns := 0) (mc := 0) (ms := 0) (N := mX12_finding) dX12_villages_10 lv_X12_90 mo_X12_finding hR.cn (Nat.le_of_ble_eq_true rfl) (Nat.le_of_ble_eq_true rfl) (by decide) (s_finding D hR 1 (by decide) (((-1000000001))) fE1) (fun h hP => ?_)
    obtain ⟨hR, hF1⟩ := hP
    have hF := hF.trans hF1
    have hS := hS.er 1
    refine e_top (lowE 1) lE1 ?_
    have e9 : f_villages s g = er 1 (s) := by rw [f_villages, if_neg hcq4]
    rw [e9] at hp
    exact e_iret dX12_villages_13 rfl (hp _ ⟨⟨_, _, hR, hS⟩, hF⟩)
set_option maxRecDepth 20000 in
theorem lp_feed (D : En) {s : SS} {τ : Nat → Int32} {h00 : AH} (hI : INV s) {post : Option Value → AH → Prop} {σ : Nat → Nat → Int32} (w : Int64) (n : Int32) (hn_n : n = nI (tn n)) (hle : tlN (sN s) + tn n ≤ 50) (hp : ∀ h', RefAt h' (fdW w (sN s) (tlN (sN s)) (tn n)) σ τ → FrR h00 h' → post (some (.int (nI (tlN (sN s) + tn n)))) h') : ∀ (j : Nat) (k : Nat) (h : AH) (M : Nat → Int32), (k + j = tn n) → (RefAt h M σ τ) → (FrR h00 h) → (M = fdW w (sN s) (tlN (sN s)) k) → (M 3 = nI (tlN (sN s) + k)) → Ev D 1 mX12_feed 40 [some (.ref (82)), some (.long (w)), none, some (.int (n)), some (.int (nI (k)))] [] h 0 0 post := by
  intro j
  induction j with
  | zero =>
    intro k h M hm hR hF hM hl3
    refine e_iload dX12_feed_40 rfl ?_
    refine e_iload_n dX12_feed_42 rfl ?_
    refine e_top (nI (tn n)) (hn_n) ?_
    refine e_icmp_geN 89 dX12_feed_43 (by decide) (by omega) (by omega) (fun hcq43 => ?_) (fun hcq43 => absurd hcq43 (by omega))
    refine e_aload_n dX12_feed_89 rfl ?_
    refine e_get dX12_feed_90 fl_X12_9_12 hR.1 rfl ?_
    refine e_iconst (nI (3)) dX12_feed_93 (by decide) ?_
    refine e_ild (3) (nI (tlN (sN s) + k)) dX12_feed_94 hR.2.1 rfl (by omega) (by decide) hl3 ?_
    have e9 : tn n = k := by omega
    rw [e9] at hp
    exact e_iret dX12_feed_95 rfl (hp _ (by rw [← hM]; exact hR) hF)
  | succ j ih =>
    intro k h M hm hR hF hM hl3
    refine e_iload dX12_feed_40 rfl ?_
    refine e_iload_n dX12_feed_42 rfl ?_
    refine e_top (nI (tn n)) (hn_n) ?_
    refine e_icmp_geN 89 dX12_feed_43 (by decide) (by omega) (by omega) (fun hcq43 => absurd hcq43 (by omega)) (fun hcq43 => ?_)
    refine e_aload_n dX12_feed_46 rfl ?_
    refine e_get dX12_feed_47 fl_X12_9_12 hR.1 rfl ?_
    refine e_sipush (nI (182)) dX12_feed_50 (by decide) ?_
    refine e_aload_n dX12_feed_53 rfl ?_
    refine e_get dX12_feed_54 fl_X12_9_12 hR.1 rfl ?_
    refine e_iconst (nI (3)) dX12_feed_57 (by decide) ?_
    refine e_ild (3) (nI (tlN (sN s) + k)) dX12_feed_58 hR.2.1 rfl (by omega) (by decide) hl3 ?_
    refine e_iaddN dX12_feed_59 ?_
    refine e_lload_n dX12_feed_60 rfl ?_
    refine e_bipush (nI (8)) dX12_feed_61 (by decide) ?_
    refine e_iload dX12_feed_63 rfl ?_
    refine e_imulN dX12_feed_65 ?_
    refine e_lshr dX12_feed_66 ?_
    refine e_ldc2 dX12_feed_67 w_1446 ?_
    refine e_land dX12_feed_70 ?_
    refine e_l2i dX12_feed_71 ?_
    refine r_stN (182 + (tlN (sN s) + k)) dX12_feed_72 hR hF rfl (by omega) (fun h hR hF => ?_)
    refine e_aload_n dX12_feed_73 rfl ?_
    refine e_get dX12_feed_74 fl_X12_9_12 hR.1 rfl ?_
    refine e_iconst (nI (3)) dX12_feed_77 (by decide) ?_
    refine e_dup2 dX12_feed_78 rfl rfl ?_
    refine e_ild (3) (nI (tlN (sN s) + k)) dX12_feed_79 hR.2.1 rfl (by omega) (by decide) ((pk_un (by omega)).trans hl3) ?_
    refine e_iconst (nI (1)) dX12_feed_80 (by decide) ?_
    refine e_iaddN dX12_feed_81 ?_
    refine r_stN (3) dX12_feed_82 hR hF rfl (by omega) (fun h hR hF => ?_)
    refine e_iincN (k + 1) dX12_feed_83 rfl (by decide) (nI_add _ _) ?_
    refine e_goto 40 dX12_feed_86 (by decide) ?_
    exact ih (k + 1) h _ (by omega) hR hF (by rw [fdW, ← hM]; rfl) pk_us
set_option maxRecDepth 20000 in
theorem rp_feed (D : En) {h : AH} {s : SS} (hI : INV s) (hRS : RefS h s) (w : Int64) (n : Int32) : Sp D 1 mX12_feed [.ref (82), .long (w), .int (n)] h 0 0 (some (.int (f_feed s w n).1)) (fun h' => RefS h' (f_feed s w n).2 ∧ FrR h h') := by
  obtain ⟨σ, τ, hR, hS⟩ := hRS
  have hY := hI.1.1
  have hnv := hY.2.1
  have htc10 := hY.2.2.2.1
  obtain ⟨h00, hh00⟩ : ∃ z, z = h := ⟨_, rfl⟩
  have hF : FrR h00 h := by rw [hh00]; exact FrR.rf
  intro post hp
  rw [← hh00] at hp
  show Ev D 1 mX12_feed 0 [some (.ref (82)), some (.long (w)), none, some (.int (n)), none] [] h 0 0 post
  have ht50 := hI.1.2.1.2
  refine e_iload_n dX12_feed_0 rfl ?_
  refine e_iconst (nI (1)) dX12_feed_1 (by decide) ?_
  refine e_bipush (nI (8)) dX12_feed_2 (by decide) ?_
  refine c_S3iR (N := mX12_within) dX12_feed_4 ls_X12_76 mo_X12_within  (Nat.le_of_ble_eq_true rfl) (Nat.le_of_ble_eq_true rfl) (by decide) (s_within D ((n)) (nI (1)) (nI (8))) ?_
  refine e_if_neB 17 dX12_feed_7 (by decide) (fun hcq7 => ?_) (fun hcq7 => ?_)
  · obtain ⟨hn_n, hg_n, hl_n⟩ := wiN hcq7 (by decide) (by decide)
    refine e_aload_n dX12_feed_17 rfl ?_
    refine e_get dX12_feed_18 fl_X12_9_12 hR.1 rfl ?_
    refine e_iconst (nI (3)) dX12_feed_21 (by decide) ?_
    refine e_ild (3) (nI (tlN (sN s))) dX12_feed_22 hR.2.1 rfl (by omega) (by decide) hI.1.2.1.1 ?_
    refine e_iload_n dX12_feed_23 rfl ?_
    refine e_top (nI (tn n)) (hn_n) ?_
    refine e_iaddN dX12_feed_24 ?_
    refine e_bipush (nI (50)) dX12_feed_25 (by decide) ?_
    refine e_icmp_leN 37 dX12_feed_27 (by decide) (by omega) (by omega) (fun hcq27 => ?_) (fun hcq27 => ?_)
    · refine e_iconst (nI (0)) dX12_feed_37 (by decide) ?_
      refine e_istore dX12_feed_38 (by decide) ?_
      refine lp_feed D hI w n hn_n hcq27 (fun h9 a9 b9 => ?_) (tn n) 0 h (sN s) (by omega) hR hF rfl hI.1.2.1.1
      have e9 : f_feed s w n = (nI (tlN (sN s) + tn n), wN s (fdW w (sN s) (tlN (sN s)) (tn n))) := by rw [f_feed, if_pos hcq7, if_neg (Nat.not_lt.mpr hcq27)]
      rw [e9] at hp
      exact hp _ ⟨⟨_, _, a9, hS⟩, b9⟩
    · refine e_aload_n dX12_feed_30 rfl ?_
      refine e_ldc dX12_feed_31 w_1300 ?_
      refine c_V1i (nc := 0) (ns := 0) (mc := 0) (ms := 0) (N := mX12_finding) dX12_feed_33 lv_X12_90 mo_X12_finding hR.cn (Nat.le_of_ble_eq_true rfl) (Nat.le_of_ble_eq_true rfl) (by decide) (s_finding D hR 4 (by decide) (((-1000000004))) fE4) (fun h hP => ?_)
      obtain ⟨hR, hF1⟩ := hP
      have hF := hF.trans hF1
      have hS := hS.er 4
      refine e_top (lowE 4) lE4 ?_
      have e9 : f_feed s w n = er 4 (s) := by rw [f_feed, if_pos hcq7, if_pos hcq27]
      rw [e9] at hp
      exact e_iret dX12_feed_36 rfl (hp _ ⟨⟨_, _, hR, hS⟩, hF⟩)
  · refine e_aload_n dX12_feed_10 rfl ?_
    refine e_ldc dX12_feed_11 w_1294 ?_
    refine c_V1i (nc := 0) (ns := 0) (mc := 0) (ms := 0) (N := mX12_finding) dX12_feed_13 lv_X12_90 mo_X12_finding hR.cn (Nat.le_of_ble_eq_true rfl) (Nat.le_of_ble_eq_true rfl) (by decide) (s_finding D hR 1 (by decide) (((-1000000001))) fE1) (fun h hP => ?_)
    obtain ⟨hR, hF1⟩ := hP
    have hF := hF.trans hF1
    have hS := hS.er 1
    refine e_top (lowE 1) lE1 ?_
    have e9 : f_feed s w n = er 1 (s) := by rw [f_feed, if_neg hcq7]
    rw [e9] at hp
    exact e_iret dX12_feed_16 rfl (hp _ ⟨⟨_, _, hR, hS⟩, hF⟩)
set_option maxRecDepth 20000 in
theorem lp_years (D : En) {s : SS} {τ : Nat → Int32} {h00 : AH} (hI : INV s) {post : Option Value → AH → Prop} (n : Int32) (hn_n : n = nI (tn n)) (hle : tn n ≤ 50) (hp : ∀ h' σ', RefAt h' (yrX (sN s) (sN s) (tn n)) σ' τ → RS σ' τ s → FrR h00 h' → post (some (.int (yrX (sN s) (sN s) (tn n) 0))) h') : ∀ (j : Nat) (k : Nat) (h : AH) (σ : Nat → Nat → Int32), (k + j = tn n) → (RefAt h (yrX (sN s) (sN s) k) σ τ) → (FrR h00 h) → (RS σ τ s) → Ev D 8 mX12_years 41 [some (.ref (82)), some (.int (n)), some (.int (nI (k)))] [] h 0 0 post := by
  intro j
  induction j with
  | zero =>
    intro k h σ hm hR hF hS
    have hY0 := hI.1.1
    have hY : YW (yrX (sN s) (sN s) k) (nvN (sN s)) (tcN (sN s)) (txN (sN s)) := yrsR_YW G0 hY0 k
    refine e_iload_n dX12_years_41 rfl ?_
    refine e_iload_n dX12_years_42 rfl ?_
    refine e_top (nI (tn n)) (hn_n) ?_
    refine e_icmp_geN 56 dX12_years_43 (by decide) (by omega) (by omega) (fun hcq43 => ?_) (fun hcq43 => absurd hcq43 (by omega))
    refine e_aload_n dX12_years_56 rfl ?_
    refine e_get dX12_years_57 fl_X12_9_12 hR.1 rfl ?_
    refine e_iconst (nI (0)) dX12_years_60 (by decide) ?_
    refine e_ild (0) (((yrX (sN s) (sN s) k) (0))) dX12_years_61 hR.2.1 rfl (by omega) (by decide) rfl ?_
    have e9 : tn n = k := by omega
    rw [e9] at hp
    exact e_iret dX12_years_62 rfl (hp _ _ hR hS hF)
  | succ j ih =>
    intro k h σ hm hR hF hS
    have hY0 := hI.1.1
    have hY : YW (yrX (sN s) (sN s) k) (nvN (sN s)) (tcN (sN s)) (txN (sN s)) := yrsR_YW G0 hY0 k
    refine e_iload_n dX12_years_41 rfl ?_
    refine e_iload_n dX12_years_42 rfl ?_
    refine e_top (nI (tn n)) (hn_n) ?_
    refine e_icmp_geN 56 dX12_years_43 (by decide) (by omega) (by omega) (fun hcq43 => absurd hcq43 (by omega)) (fun hcq43 => ?_)
    refine e_aload_n dX12_years_46 rfl ?_
    refine c_V0v (nc := 0) (ns := 0) (mc := 0) (ms := 0) (N := mX12_year) dX12_years_47 lv_X12_271 mo_X12_year hR.cn (Nat.le_of_ble_eq_true rfl) (Nat.le_of_ble_eq_true rfl) (by decide) (s_year D hR hY) (fun h hP => ?_)
    have hG9 := hS.2.1.1
    obtain ⟨σ, hR, hE1, hF1⟩ := hP
    have hF := hF.trans hF1
    rw [hG9] at hR
    have hR : RefAt h (yrX (sN s) (sN s) (k + 1)) σ τ := hR
    have hS := hS.to (fun i hi => hE1 i hi.2.1 hi.2.2.2.1 hi.2.2.2.2.1) rfl rfl
    have hY : YW (yrX (sN s) (sN s) (k + 1)) (nvN (sN s)) (tcN (sN s)) (txN (sN s)) := yrsR_YW G0 hY0 _
    refine e_iincN (k + 1) dX12_years_50 rfl (by decide) (nI_add _ _) ?_
    refine e_goto 41 dX12_years_53 (by decide) ?_
    exact ih (k + 1) h σ (by omega) hR hF hS
set_option maxRecDepth 20000 in
theorem rp_years (D : En) {h : AH} {s : SS} (hI : INV s) (hRS : RefS h s) (n : Int32) : Sp D 8 mX12_years [.ref (82), .int (n)] h 0 0 (some (.int (f_years s n).1)) (fun h' => RefS h' (f_years s n).2 ∧ FrR h h') := by
  obtain ⟨σ, τ, hR, hS⟩ := hRS
  have hY := hI.1.1
  have hnv := hY.2.1
  have htc10 := hY.2.2.2.1
  obtain ⟨h00, hh00⟩ : ∃ z, z = h := ⟨_, rfl⟩
  have hF : FrR h00 h := by rw [hh00]; exact FrR.rf
  intro post hp
  rw [← hh00] at hp
  show Ev D 8 mX12_years 0 [some (.ref (82)), some (.int (n)), none] [] h 0 0 post
  refine e_iload_n dX12_years_0 rfl ?_
  refine e_iconst (nI (1)) dX12_years_1 (by decide) ?_
  refine e_bipush (nI (50)) dX12_years_2 (by decide) ?_
  refine c_S3iR (N := mX12_within) dX12_years_4 ls_X12_76 mo_X12_within  (Nat.le_of_ble_eq_true rfl) (Nat.le_of_ble_eq_true rfl) (by decide) (s_within D ((n)) (nI (1)) (nI (50))) ?_
  refine e_if_neB 17 dX12_years_7 (by decide) (fun hcq7 => ?_) (fun hcq7 => ?_)
  · obtain ⟨hn_n, hg_n, hl_n⟩ := wiN hcq7 (by decide) (by decide)
    refine e_aload_n dX12_years_17 rfl ?_
    refine e_get dX12_years_18 fl_X12_9_12 hR.1 rfl ?_
    refine e_iconst (nI (0)) dX12_years_21 (by decide) ?_
    refine e_ild (0) (((sN s) (0))) dX12_years_22 hR.2.1 rfl (by omega) (by decide) rfl ?_
    refine e_iload_n dX12_years_23 rfl ?_
    refine e_top (nI (tn n)) (hn_n) ?_
    refine e_iadd dX12_years_24 ?_
    refine e_sipush (nI (199)) dX12_years_25 (by decide) ?_
    refine e_icmp_le 39 dX12_years_28 (by decide) (fun hcq28 => ?_) (fun hcq28 => ?_)
    · refine e_iconst (nI (0)) dX12_years_39 (by decide) ?_
      refine e_istore_n dX12_years_40 (by decide) ?_
      refine lp_years D hI n hn_n (by omega) (fun h9 σ9 a9 b9 d9 => ?_) (tn n) 0 h σ (by omega) hR hF hS
      have e9 : f_years s n = (yrN (sN s) (tn n) 0, wN s (yrN (sN s) (tn n))) := by rw [f_years, if_pos hcq7, if_pos hcq28]
      rw [e9] at hp
      exact hp _ ⟨⟨_, _, a9, b9⟩, d9⟩
    · refine e_aload_n dX12_years_31 rfl ?_
      refine e_ldcw dX12_years_32 w_1540 ?_
      refine c_V1i (nc := 0) (ns := 0) (mc := 0) (ms := 0) (N := mX12_finding) dX12_years_35 lv_X12_90 mo_X12_finding hR.cn (Nat.le_of_ble_eq_true rfl) (Nat.le_of_ble_eq_true rfl) (by decide) (s_finding D hR 3 (by decide) (((-1000000003))) fE3) (fun h hP => ?_)
      obtain ⟨hR, hF1⟩ := hP
      have hF := hF.trans hF1
      have hS := hS.er 3
      refine e_top (lowE 3) lE3 ?_
      have e9 : f_years s n = er 3 (s) := by rw [f_years, if_pos hcq7, if_neg hcq28]
      rw [e9] at hp
      exact e_iret dX12_years_38 rfl (hp _ ⟨⟨_, _, hR, hS⟩, hF⟩)
  · refine e_aload_n dX12_years_10 rfl ?_
    refine e_ldc dX12_years_11 w_1294 ?_
    refine c_V1i (nc := 0) (ns := 0) (mc := 0) (ms := 0) (N := mX12_finding) dX12_years_13 lv_X12_90 mo_X12_finding hR.cn (Nat.le_of_ble_eq_true rfl) (Nat.le_of_ble_eq_true rfl) (by decide) (s_finding D hR 1 (by decide) (((-1000000001))) fE1) (fun h hP => ?_)
    obtain ⟨hR, hF1⟩ := hP
    have hF := hF.trans hF1
    have hS := hS.er 1
    refine e_top (lowE 1) lE1 ?_
    have e9 : f_years s n = er 1 (s) := by rw [f_years, if_neg hcq7]
    rw [e9] at hp
    exact e_iret dX12_years_16 rfl (hp _ ⟨⟨_, _, hR, hS⟩, hF⟩)
set_option maxRecDepth 20000 in
theorem lp_left (D : En) {s : SS} {τ : Nat → Int32} {h00 : AH} (hI : INV s) {post : Option Value → AH → Prop} {h : AH} {M : Nat → Int32} {σ : Nat → Nat → Int32} (hR : RefAt h M σ τ) (hY : YW M (nvN (sN s)) (tcN (sN s)) (txN (sN s))) (hC : ∀ v, v < nvN (sN s) → σ 5 v = comfR G0 M (nvN (sN s)) (tcN (sN s)) v) (n w lf : Int32) (kk : Ev D 9 mX12_left 79 [some (.ref 82), some (.int n), some (.int w), some (.int lf), some (.int (sumF (cf2 M (nvN (sN s)) (tcN (sN s))) (nvN (sN s)))), none] [] h 0 0 post) : ∀ (j : Nat) (v : Nat) (ac : Int32), (v + j = nvN (sN s)) → (ac = sumF (cf2 M (nvN (sN s)) (tcN (sN s))) v) → Ev D 9 mX12_left 50 [some (.ref (82)), some (.int (n)), some (.int (w)), some (.int (lf)), some (.int (ac)), some (.int (nI (v)))] [] h 0 0 post := by
  intro j
  induction j with
  | zero =>
    intro v ac hm ha
    have hnv := hY.2.1
    refine e_iload dX12_left_50 rfl ?_
    refine e_aload_n dX12_left_52 rfl ?_
    refine e_get dX12_left_53 fl_X12_9_12 hR.1 rfl ?_
    refine e_iconst (nI (1)) dX12_left_56 (by decide) ?_
    refine e_ild (1) (nI (nvN (sN s))) dX12_left_57 hR.2.1 rfl (by omega) (by decide) hY.1 ?_
    refine e_icmp_geN 79 dX12_left_58 (by decide) (by omega) (by omega) (fun hcq58 => ?_) (fun hcq58 => absurd hcq58 (by omega))
    rw [ha, show v = nvN (sN s) by omega]
    exact Ev.drop 5 kk
  | succ j ih =>
    intro v ac hm ha
    have hnv := hY.2.1
    refine e_iload dX12_left_50 rfl ?_
    refine e_aload_n dX12_left_52 rfl ?_
    refine e_get dX12_left_53 fl_X12_9_12 hR.1 rfl ?_
    refine e_iconst (nI (1)) dX12_left_56 (by decide) ?_
    refine e_ild (1) (nI (nvN (sN s))) dX12_left_57 hR.2.1 rfl (by omega) (by decide) hY.1 ?_
    refine e_icmp_geN 79 dX12_left_58 (by decide) (by omega) (by omega) (fun hcq58 => absurd hcq58 (by omega)) (fun hcq58 => ?_)
    refine e_iload dX12_left_61 rfl ?_
    refine e_aload_n dX12_left_63 rfl ?_
    refine e_get dX12_left_64 fl_X12_25_12 hR.1 rfl ?_
    refine e_iload dX12_left_67 rfl ?_
    refine e_ild (v) ((cf2 M (nvN (sN s)) (tcN (sN s)) v)) dX12_left_69 (hR.2.2.1 5 (by decide) (by decide) (by decide)) rfl (by show _ < 8; omega) (by decide) (hC _ (by omega)) ?_
    refine e_iadd dX12_left_70 ?_
    refine e_istore dX12_left_71 (by decide) ?_
    refine e_iincN (v + 1) dX12_left_73 rfl (by decide) (nI_add _ _) ?_
    refine e_goto 50 dX12_left_76 (by decide) ?_
    exact ih (v + 1) _ (by omega) (by rw [sumF, ← ha])
set_option maxRecDepth 20000 in
theorem rp_left (D : En) {h : AH} {s : SS} (hI : INV s) (hRS : RefS h s) (n : Int32) (w : Int32) : Sp D 9 mX12_left [.ref (82), .int (n), .int (w)] h 0 0 (some (.int (f_left s n w).1)) (fun h' => RefS h' (f_left s n w).2 ∧ FrR h h') := by
  obtain ⟨σ, τ, hR, hS⟩ := hRS
  have hY := hI.1.1
  have hnv := hY.2.1
  have htc10 := hY.2.2.2.1
  obtain ⟨h00, hh00⟩ : ∃ z, z = h := ⟨_, rfl⟩
  have hF : FrR h00 h := by rw [hh00]; exact FrR.rf
  intro post hp
  rw [← hh00] at hp
  show Ev D 9 mX12_left 0 [some (.ref (82)), some (.int (n)), some (.int (w)), none, none, none] [] h 0 0 post
  refine e_iload_n dX12_left_0 rfl ?_
  refine c_S1iR (N := mX12_isAhead) dX12_left_1 ls_X12_281 mo_X12_isAhead  (Nat.le_of_ble_eq_true rfl) (Nat.le_of_ble_eq_true rfl) (by decide) (s_isAhead D ((n))) ?_
  refine e_if_eqB 16 dX12_left_4 (by decide) (fun hcq4 => ?_) (fun hcq4 => ?_)
  · refine e_aload_n dX12_left_16 rfl ?_
    refine e_ldc dX12_left_17 w_1294 ?_
    refine c_V1i (nc := 0) (ns := 0) (mc := 0) (ms := 0) (N := mX12_finding) dX12_left_19 lv_X12_90 mo_X12_finding hR.cn (Nat.le_of_ble_eq_true rfl) (Nat.le_of_ble_eq_true rfl) (by decide) (s_finding D hR 1 (by decide) (((-1000000001))) fE1) (fun h hP => ?_)
    obtain ⟨hR, hF1⟩ := hP
    have hF := hF.trans hF1
    have hS := hS.er 1
    refine e_top (lowE 1) lE1 ?_
    have e9 : f_left s n w = er 1 (s) := by rw [f_left, if_neg hcq4]
    rw [e9] at hp
    exact e_iret dX12_left_22 rfl (hp _ ⟨⟨_, _, hR, hS⟩, hF⟩)
  · obtain ⟨hn_n, hg_n, hl_n⟩ := wiN hcq4 (by decide) (by decide)
    refine e_iload_n dX12_left_7 rfl ?_
    refine e_iconst (nI (0)) dX12_left_8 (by decide) ?_
    refine e_iconst (nI (3)) dX12_left_9 (by decide) ?_
    refine c_S3iR (N := mX12_within) dX12_left_10 ls_X12_76 mo_X12_within  (Nat.le_of_ble_eq_true rfl) (Nat.le_of_ble_eq_true rfl) (by decide) (s_within D ((w)) (nI (0)) (nI (3))) ?_
    refine e_if_neB 23 dX12_left_13 (by decide) (fun hcq13 => ?_) (fun hcq13 => ?_)
    · obtain ⟨hn_w, hg_w, hl_w⟩ := wiN hcq13 (by decide) (by decide)
      refine e_aload_n dX12_left_23 rfl ?_
      refine e_get dX12_left_24 fl_X12_9_12 hR.1 rfl ?_
      refine e_aload_n dX12_left_27 rfl ?_
      refine e_get dX12_left_28 fl_X12_16_12 hR.1 rfl ?_
      refine c_S2v (nc := 0) (ns := 0) (mc := 0) (ms := 0) (N := mX12_copy) dX12_left_31 ls_X12_277 mo_X12_copy  (Nat.le_of_ble_eq_true rfl) (Nat.le_of_ble_eq_true rfl) (by decide) (s_copyNA D hR) (fun h hP => ?_)
      obtain ⟨hR, hF1⟩ := hP
      have hF := hF.trans hF1
      obtain ⟨σ, hR, hA2, hS⟩ : ∃ z, RefAt h (sN s) z τ ∧ z 2 = sN s ∧ RS z τ s := ⟨_, hR, va_upS _ _ _, hS.to (fun i hi => va_upN _ _ hi.1) rfl rfl⟩
      refine e_aload_n dX12_left_34 rfl ?_
      refine e_iload_n dX12_left_35 rfl ?_
      refine e_top (nI (tn n)) (hn_n) ?_
      refine c_V1i (nc := 0) (ns := 0) (mc := 0) (ms := 0) (N := mX12_ahead) dX12_left_36 lv_X12_284 mo_X12_ahead hR.cn (Nat.le_of_ble_eq_true rfl) (Nat.le_of_ble_eq_true rfl) (by decide) (s_ahead D hR hY (tn n) (by omega)) (fun h hP => ?_)
      have hG9 := hS.2.1.1
      obtain ⟨σ, hR, hE1, hF1⟩ := hP
      have hF := hF.trans hF1
      rw [hG9] at hR
      have hR : RefAt h (yrX (sN s) (sN s) (tn n)) σ τ := hR
      have hA2 := (hE1 2 (by decide) (by decide) (by decide)).trans hA2
      have hS := hS.to (fun i hi => hE1 i hi.2.1 hi.2.2.2.1 hi.2.2.2.2.1) rfl rfl
      have hY : YW (yrX (sN s) (sN s) (tn n)) (nvN (sN s)) (tcN (sN s)) (txN (sN s)) := yrsR_YW G0 hY _
      refine e_top (ppN (yrX (sN s) (sN s) (tn n)) (nvN (sN s))) (by rw [hG9]; rfl) ?_
      refine e_istore_n dX12_left_39 (by decide) ?_
      refine e_aload_n dX12_left_40 rfl ?_
      refine c_V0v (nc := 0) (ns := 0) (mc := 0) (ms := 0) (N := mX12_findComforts) dX12_left_41 lv_X12_164 mo_X12_findComforts hR.cn (Nat.le_of_ble_eq_true rfl) (Nat.le_of_ble_eq_true rfl) (by decide) (s_comE D hR hY.1 hY.2.1 hY.2.2.1 hY.2.2.2.1 hY.2.2.2.2.1) (fun h hP => ?_)
      obtain ⟨σ, hR, hE1, hC, hF1⟩ := hP
      have hF := hF.trans hF1
      rw [hS.2.1.1] at hC
      have hS := hS.to (fun i hi => hE1 i hi.2.1) rfl rfl
      have hA2 := (hE1 2 (by decide)).trans hA2
      refine e_iconst (nI (0)) dX12_left_44 (by decide) ?_
      refine e_istore dX12_left_45 (by decide) ?_
      refine e_iconst (nI (0)) dX12_left_47 (by decide) ?_
      refine e_istore dX12_left_48 (by decide) ?_
      refine lp_left D hI (h00 := h) hR hY hC n w _ ?_ (nvN (sN s)) 0 _ (by omega) rfl
      refine e_aload_n dX12_left_79 rfl ?_
      refine e_iload_n dX12_left_80 rfl ?_
      refine e_top (nI (tn w)) (hn_w) ?_
      refine e_if_neN 88 dX12_left_81 (by decide) (by omega) (fun hcq81 => ?_) (fun hcq81 => ?_)
      · refine e_iload_n dX12_left_88 rfl ?_
        refine e_top (nI (tn w)) (hn_w) ?_
        refine e_iconst (nI (1)) dX12_left_89 (by decide) ?_
        refine e_icmp_neN 103 dX12_left_90 (by decide) (by omega) (by omega) (fun hcq90 => ?_) (fun hcq90 => ?_)
        · refine e_iload_n dX12_left_103 rfl ?_
          refine e_top (nI (tn w)) (hn_w) ?_
          refine e_iconst (nI (2)) dX12_left_104 (by decide) ?_
          refine e_icmp_neN 115 dX12_left_105 (by decide) (by omega) (by omega) (fun hcq105 => ?_) (fun hcq105 => ?_)
          · refine e_iload dX12_left_115 rfl ?_
            refine c_V1i (nc := 0) (ns := 0) (mc := 0) (ms := 0) (N := mX12_back) dX12_left_117 lv_X12_290 mo_X12_back hR.cn (Nat.le_of_ble_eq_true rfl) (Nat.le_of_ble_eq_true rfl) (by decide) (s_back D hR ((sumF (cf2 (yrX (sN s) (sN s) (tn n)) (nvN (sN s)) (tcN (sN s))) (nvN (sN s))))) (fun h hP => ?_)
            obtain ⟨hR, hF1⟩ := hP
            have hF := hF.trans hF1
            rw [hA2] at hR
            have hY := hI.1.1
            have e9 : f_left s n w = ((sumF (cf2 (yrX (sN s) (sN s) (tn n)) (nvN (sN s)) (tcN (sN s))) (nvN (sN s))), s) := by rw [f_left, if_pos hcq4, if_pos hcq13, lfV, if_neg hcq81, if_neg hcq90, if_neg hcq105]; rfl
            rw [e9] at hp
            exact e_iret dX12_left_120 rfl (hp _ ⟨⟨_, _, hR, hS⟩, hF⟩)
          · refine e_aload_n dX12_left_108 rfl ?_
            refine c_V0iR (N := mX12_openOnes) dX12_left_109 lv_X12_287 mo_X12_openOnes hR.cn (Nat.le_of_ble_eq_true rfl) (Nat.le_of_ble_eq_true rfl) (by decide) (s_openOnes D hR hY.2.2.1 hY.2.2.2.1) ?_
            refine e_goto 117 dX12_left_112 (by decide) ?_
            refine c_V1i (nc := 0) (ns := 0) (mc := 0) (ms := 0) (N := mX12_back) dX12_left_117 lv_X12_290 mo_X12_back hR.cn (Nat.le_of_ble_eq_true rfl) (Nat.le_of_ble_eq_true rfl) (by decide) (s_back D hR ((orF (openR (yrX (sN s) (sN s) (tn n))) (tcN (sN s))))) (fun h hP => ?_)
            obtain ⟨hR, hF1⟩ := hP
            have hF := hF.trans hF1
            rw [hA2] at hR
            have hY := hI.1.1
            have e9 : f_left s n w = ((orF (openR (yrX (sN s) (sN s) (tn n))) (tcN (sN s))), s) := by rw [f_left, if_pos hcq4, if_pos hcq13, lfV, if_neg hcq81, if_neg hcq90, if_pos hcq105]; rfl
            rw [e9] at hp
            exact e_iret dX12_left_120 rfl (hp _ ⟨⟨_, _, hR, hS⟩, hF⟩)
        · refine e_aload_n dX12_left_93 rfl ?_
          refine e_get dX12_left_94 fl_X12_9_12 hR.1 rfl ?_
          refine e_bipush (nI (12)) dX12_left_97 (by decide) ?_
          refine e_ild (12) (((yrX (sN s) (sN s) (tn n)) (12))) dX12_left_99 hR.2.1 rfl (by omega) (by decide) rfl ?_
          refine e_goto 117 dX12_left_100 (by decide) ?_
          refine c_V1i (nc := 0) (ns := 0) (mc := 0) (ms := 0) (N := mX12_back) dX12_left_117 lv_X12_290 mo_X12_back hR.cn (Nat.le_of_ble_eq_true rfl) (Nat.le_of_ble_eq_true rfl) (by decide) (s_back D hR (((yrX (sN s) (sN s) (tn n)) (12)))) (fun h hP => ?_)
          obtain ⟨hR, hF1⟩ := hP
          have hF := hF.trans hF1
          rw [hA2] at hR
          have hY := hI.1.1
          have e9 : f_left s n w = (((yrX (sN s) (sN s) (tn n)) (12)), s) := by rw [f_left, if_pos hcq4, if_pos hcq13, lfV, if_neg hcq81, if_pos hcq90]; rfl
          rw [e9] at hp
          exact e_iret dX12_left_120 rfl (hp _ ⟨⟨_, _, hR, hS⟩, hF⟩)
      · refine e_iload_n dX12_left_84 rfl ?_
        refine e_goto 117 dX12_left_85 (by decide) ?_
        refine c_V1i (nc := 0) (ns := 0) (mc := 0) (ms := 0) (N := mX12_back) dX12_left_117 lv_X12_290 mo_X12_back hR.cn (Nat.le_of_ble_eq_true rfl) (Nat.le_of_ble_eq_true rfl) (by decide) (s_back D hR ((ppN (yrX (sN s) (sN s) (tn n)) (nvN (sN s))))) (fun h hP => ?_)
        obtain ⟨hR, hF1⟩ := hP
        have hF := hF.trans hF1
        rw [hA2] at hR
        have hY := hI.1.1
        have e9 : f_left s n w = ((ppN (yrX (sN s) (sN s) (tn n)) (nvN (sN s))), s) := by rw [f_left, if_pos hcq4, if_pos hcq13, lfV, if_pos hcq81]; rfl
        rw [e9] at hp
        exact e_iret dX12_left_120 rfl (hp _ ⟨⟨_, _, hR, hS⟩, hF⟩)
    · refine e_aload_n dX12_left_16 rfl ?_
      refine e_ldc dX12_left_17 w_1294 ?_
      refine c_V1i (nc := 0) (ns := 0) (mc := 0) (ms := 0) (N := mX12_finding) dX12_left_19 lv_X12_90 mo_X12_finding hR.cn (Nat.le_of_ble_eq_true rfl) (Nat.le_of_ble_eq_true rfl) (by decide) (s_finding D hR 1 (by decide) (((-1000000001))) fE1) (fun h hP => ?_)
      obtain ⟨hR, hF1⟩ := hP
      have hF := hF.trans hF1
      have hS := hS.er 1
      refine e_top (lowE 1) lE1 ?_
      have e9 : f_left s n w = er 1 (s) := by rw [f_left, if_pos hcq4, if_neg hcq13]
      rw [e9] at hp
      exact e_iret dX12_left_22 rfl (hp _ ⟨⟨_, _, hR, hS⟩, hF⟩)
set_option maxRecDepth 20000 in
theorem rp_then (D : En) {h : AH} {s : SS} (hI : INV s) (hRS : RefS h s) (n : Int32) (v : Int32) (w : Int32) : Sp D 9 mX12_then [.ref (82), .int (n), .int (v), .int (w)] h 0 0 (some (.int (f_then s n v w).1)) (fun h' => RefS h' (f_then s n v w).2 ∧ FrR h h') := by
  obtain ⟨σ, τ, hR, hS⟩ := hRS
  have hY := hI.1.1
  have hnv := hY.2.1
  have htc10 := hY.2.2.2.1
  obtain ⟨h00, hh00⟩ : ∃ z, z = h := ⟨_, rfl⟩
  have hF : FrR h00 h := by rw [hh00]; exact FrR.rf
  intro post hp
  rw [← hh00] at hp
  show Ev D 9 mX12_then 0 [some (.ref (82)), some (.int (n)), some (.int (v)), some (.int (w)), none] [] h 0 0 post
  refine e_iload_n dX12_then_0 rfl ?_
  refine c_S1iR (N := mX12_isAhead) dX12_then_1 ls_X12_281 mo_X12_isAhead  (Nat.le_of_ble_eq_true rfl) (Nat.le_of_ble_eq_true rfl) (by decide) (s_isAhead D ((n))) ?_
  refine e_if_eqB 25 dX12_then_4 (by decide) (fun hcq4 => ?_) (fun hcq4 => ?_)
  · refine e_aload_n dX12_then_25 rfl ?_
    refine e_ldc dX12_then_26 w_1294 ?_
    refine c_V1i (nc := 0) (ns := 0) (mc := 0) (ms := 0) (N := mX12_finding) dX12_then_28 lv_X12_90 mo_X12_finding hR.cn (Nat.le_of_ble_eq_true rfl) (Nat.le_of_ble_eq_true rfl) (by decide) (s_finding D hR 1 (by decide) (((-1000000001))) fE1) (fun h hP => ?_)
    obtain ⟨hR, hF1⟩ := hP
    have hF := hF.trans hF1
    have hS := hS.er 1
    refine e_top (lowE 1) lE1 ?_
    have e9 : f_then s n v w = er 1 (s) := by rw [f_then, if_neg hcq4]
    rw [e9] at hp
    exact e_iret dX12_then_31 rfl (hp _ ⟨⟨_, _, hR, hS⟩, hF⟩)
  · obtain ⟨hn_n, hg_n, hl_n⟩ := wiN hcq4 (by decide) (by decide)
    refine e_aload_n dX12_then_7 rfl ?_
    refine e_iload_n dX12_then_8 rfl ?_
    refine e_iconst (nI (1)) dX12_then_9 (by decide) ?_
    refine c_V2iR (N := mX12_is) dX12_then_10 lv_X12_103 mo_X12_is hR.cn (Nat.le_of_ble_eq_true rfl) (Nat.le_of_ble_eq_true rfl) (by decide) (s_is D hR ((v)) (1) (by omega)) ?_
    refine e_if_eqB 25 dX12_then_13 (by decide) (fun hcq13 => ?_) (fun hcq13 => ?_)
    · refine e_aload_n dX12_then_25 rfl ?_
      refine e_ldc dX12_then_26 w_1294 ?_
      refine c_V1i (nc := 0) (ns := 0) (mc := 0) (ms := 0) (N := mX12_finding) dX12_then_28 lv_X12_90 mo_X12_finding hR.cn (Nat.le_of_ble_eq_true rfl) (Nat.le_of_ble_eq_true rfl) (by decide) (s_finding D hR 1 (by decide) (((-1000000001))) fE1) (fun h hP => ?_)
      obtain ⟨hR, hF1⟩ := hP
      have hF := hF.trans hF1
      have hS := hS.er 1
      refine e_top (lowE 1) lE1 ?_
      have e9 : f_then s n v w = er 1 (s) := by rw [f_then, if_pos hcq4, if_neg hcq13]
      rw [e9] at hp
      exact e_iret dX12_then_31 rfl (hp _ ⟨⟨_, _, hR, hS⟩, hF⟩)
    · obtain ⟨hn_v, hl_v⟩ := isN hcq13 hY.1 (by omega)
      refine e_iload_n dX12_then_16 rfl ?_
      refine e_iconst (nI (0)) dX12_then_17 (by decide) ?_
      refine e_iconst (nI (3)) dX12_then_18 (by decide) ?_
      refine c_S3iR (N := mX12_within) dX12_then_19 ls_X12_76 mo_X12_within  (Nat.le_of_ble_eq_true rfl) (Nat.le_of_ble_eq_true rfl) (by decide) (s_within D ((w)) (nI (0)) (nI (3))) ?_
      refine e_if_neB 32 dX12_then_22 (by decide) (fun hcq22 => ?_) (fun hcq22 => ?_)
      · obtain ⟨hn_w, hg_w, hl_w⟩ := wiN hcq22 (by decide) (by decide)
        refine e_aload_n dX12_then_32 rfl ?_
        refine e_get dX12_then_33 fl_X12_9_12 hR.1 rfl ?_
        refine e_aload_n dX12_then_36 rfl ?_
        refine e_get dX12_then_37 fl_X12_16_12 hR.1 rfl ?_
        refine c_S2v (nc := 0) (ns := 0) (mc := 0) (ms := 0) (N := mX12_copy) dX12_then_40 ls_X12_277 mo_X12_copy  (Nat.le_of_ble_eq_true rfl) (Nat.le_of_ble_eq_true rfl) (by decide) (s_copyNA D hR) (fun h hP => ?_)
        obtain ⟨hR, hF1⟩ := hP
        have hF := hF.trans hF1
        obtain ⟨σ, hR, hA2, hS⟩ : ∃ z, RefAt h (sN s) z τ ∧ z 2 = sN s ∧ RS z τ s := ⟨_, hR, va_upS _ _ _, hS.to (fun i hi => va_upN _ _ hi.1) rfl rfl⟩
        refine e_aload_n dX12_then_43 rfl ?_
        refine e_iload_n dX12_then_44 rfl ?_
        refine e_top (nI (tn n)) (hn_n) ?_
        refine c_V1i (nc := 0) (ns := 0) (mc := 0) (ms := 0) (N := mX12_ahead) dX12_then_45 lv_X12_284 mo_X12_ahead hR.cn (Nat.le_of_ble_eq_true rfl) (Nat.le_of_ble_eq_true rfl) (by decide) (s_ahead D hR hY (tn n) (by omega)) (fun h hP => ?_)
        have hG9 := hS.2.1.1
        obtain ⟨σ, hR, hE1, hF1⟩ := hP
        have hF := hF.trans hF1
        rw [hG9] at hR
        have hR : RefAt h (yrX (sN s) (sN s) (tn n)) σ τ := hR
        have hA2 := (hE1 2 (by decide) (by decide) (by decide)).trans hA2
        have hS := hS.to (fun i hi => hE1 i hi.2.1 hi.2.2.2.1 hi.2.2.2.2.1) rfl rfl
        have hY : YW (yrX (sN s) (sN s) (tn n)) (nvN (sN s)) (tcN (sN s)) (txN (sN s)) := yrsR_YW G0 hY _
        refine e_top (ppN (yrX (sN s) (sN s) (tn n)) (nvN (sN s))) (by rw [hG9]; rfl) ?_
        refine e_istore dX12_then_48 (by decide) ?_
        refine e_aload_n dX12_then_50 rfl ?_
        refine e_iload_n dX12_then_51 rfl ?_
        refine e_top (nI (tn w)) (hn_w) ?_
        refine e_iconst (nI (3)) dX12_then_52 (by decide) ?_
        refine e_icmp_neN 64 dX12_then_53 (by decide) (by omega) (by omega) (fun hcq53 => ?_) (fun hcq53 => ?_)
        · refine e_aload_n dX12_then_64 rfl ?_
          refine e_iload_n dX12_then_65 rfl ?_
          refine e_top (nI (tn v)) (hn_v) ?_
          refine e_iload_n dX12_then_66 rfl ?_
          refine e_top (nI (tn w)) (hn_w) ?_
          refine c_V2iR (N := mX12_of) dX12_then_67 lv_X12_99 mo_X12_of hR.cn (Nat.le_of_ble_eq_true rfl) (Nat.le_of_ble_eq_true rfl) (by decide) (s_of D hR (tn v) (tn w) (by omega) (by omega)) ?_
          refine c_V1i (nc := 0) (ns := 0) (mc := 0) (ms := 0) (N := mX12_back) dX12_then_70 lv_X12_290 mo_X12_back hR.cn (Nat.le_of_ble_eq_true rfl) (Nat.le_of_ble_eq_true rfl) (by decide) (s_back D hR (((yrX (sN s) (sN s) (tn n)) (16 + 4 * (tn v) + 1 + (tn w))))) (fun h hP => ?_)
          obtain ⟨hR, hF1⟩ := hP
          have hF := hF.trans hF1
          rw [hA2] at hR
          have hY := hI.1.1
          have e9 : f_then s n v w = (((yrX (sN s) (sN s) (tn n)) (16 + 4 * (tn v) + 1 + (tn w))), s) := by rw [f_then, if_pos hcq4, if_pos hcq13, if_pos hcq22, thV, if_neg hcq53]; rfl
          rw [e9] at hp
          exact e_iret dX12_then_73 rfl (hp _ ⟨⟨_, _, hR, hS⟩, hF⟩)
        · refine e_aload_n dX12_then_56 rfl ?_
          refine e_iload_n dX12_then_57 rfl ?_
          refine e_top (nI (tn v)) (hn_v) ?_
          refine c_V1iR (N := mX12_allOf) dX12_then_58 lv_X12_107 mo_X12_allOf hR.cn (Nat.le_of_ble_eq_true rfl) (Nat.le_of_ble_eq_true rfl) (by decide) (s_allOf D hR (tn v) (by omega)) ?_
          refine e_goto 70 dX12_then_61 (by decide) ?_
          refine c_V1i (nc := 0) (ns := 0) (mc := 0) (ms := 0) (N := mX12_back) dX12_then_70 lv_X12_290 mo_X12_back hR.cn (Nat.le_of_ble_eq_true rfl) (Nat.le_of_ble_eq_true rfl) (by decide) (s_back D hR ((allR (yrX (sN s) (sN s) (tn n)) (tn v)))) (fun h hP => ?_)
          obtain ⟨hR, hF1⟩ := hP
          have hF := hF.trans hF1
          rw [hA2] at hR
          have hY := hI.1.1
          have e9 : f_then s n v w = ((allR (yrX (sN s) (sN s) (tn n)) (tn v)), s) := by rw [f_then, if_pos hcq4, if_pos hcq13, if_pos hcq22, thV, if_pos hcq53]; rfl
          rw [e9] at hp
          exact e_iret dX12_then_73 rfl (hp _ ⟨⟨_, _, hR, hS⟩, hF⟩)
      · refine e_aload_n dX12_then_25 rfl ?_
        refine e_ldc dX12_then_26 w_1294 ?_
        refine c_V1i (nc := 0) (ns := 0) (mc := 0) (ms := 0) (N := mX12_finding) dX12_then_28 lv_X12_90 mo_X12_finding hR.cn (Nat.le_of_ble_eq_true rfl) (Nat.le_of_ble_eq_true rfl) (by decide) (s_finding D hR 1 (by decide) (((-1000000001))) fE1) (fun h hP => ?_)
        obtain ⟨hR, hF1⟩ := hP
        have hF := hF.trans hF1
        have hS := hS.er 1
        refine e_top (lowE 1) lE1 ?_
        have e9 : f_then s n v w = er 1 (s) := by rw [f_then, if_pos hcq4, if_pos hcq13, if_neg hcq22]
        rw [e9] at hp
        exact e_iret dX12_then_31 rfl (hp _ ⟨⟨_, _, hR, hS⟩, hF⟩)
set_option maxRecDepth 20000 in
theorem lp_falls (D : En) {s : SS} {τ : Nat → Int32} {h00 : AH} (hI : INV s) {post : Option Value → AH → Prop} (v n : Int32) (hn_v : v = nI (tn v)) (hl_v : tn v < nvN (sN s)) (hn_n : n = nI (tn n)) (hle : tn n ≤ 40) (kk : ∀ k h σ, k ≤ 40 → RefAt h (yrX (sN s) (sN s) k) σ τ → FrR h00 h → RS σ τ s → σ 2 = sN s → fsP (flP (sN s) (tn v)) (tn n) 0 = k → Ev D 8 mX12_falls 59 [some (.ref 82), some (.int v), some (.int n), some (.int (nI k)), none] [] h 0 0 post) : ∀ (j : Nat) (k : Nat) (h : AH) (σ : Nat → Nat → Int32), (k + j = tn n) → (RefAt h (yrX (sN s) (sN s) k) σ τ) → (FrR h00 h) → (RS σ τ s) → (σ 2 = sN s) → (fsP (flP (sN s) (tn v)) (tn n) 0 = fsP (flP (sN s) (tn v)) j k) → Ev D 8 mX12_falls 36 [some (.ref (82)), some (.int (v)), some (.int (n)), some (.int (nI (k))), none] [] h 0 0 post := by
  intro j
  induction j with
  | zero =>
    intro k h σ hm hR hF hS hA2 hfs
    have hY0 := hI.1.1
    have hY : YW (yrX (sN s) (sN s) k) (nvN (sN s)) (tcN (sN s)) (txN (sN s)) := yrsR_YW G0 hY0 k
    have hnv := hY.2.1
    refine e_iload_n dX12_falls_36 rfl ?_
    refine e_iload_n dX12_falls_37 rfl ?_
    refine e_top (nI (tn n)) (hn_n) ?_
    refine e_icmp_geN 59 dX12_falls_38 (by decide) (by omega) (by omega) (fun hcq38 => ?_) (fun hcq38 => absurd hcq38 (by omega))
    exact kk k h σ (by omega) hR hF hS hA2 hfs
  | succ j ih =>
    intro k h σ hm hR hF hS hA2 hfs
    have hY0 := hI.1.1
    have hY : YW (yrX (sN s) (sN s) k) (nvN (sN s)) (tcN (sN s)) (txN (sN s)) := yrsR_YW G0 hY0 k
    have hnv := hY.2.1
    refine e_iload_n dX12_falls_36 rfl ?_
    refine e_iload_n dX12_falls_37 rfl ?_
    refine e_top (nI (tn n)) (hn_n) ?_
    refine e_icmp_geN 59 dX12_falls_38 (by decide) (by omega) (by omega) (fun hcq38 => absurd hcq38 (by omega)) (fun hcq38 => ?_)
    refine e_aload_n dX12_falls_41 rfl ?_
    refine e_iload_n dX12_falls_42 rfl ?_
    refine e_top (nI (tn v)) (hn_v) ?_
    refine c_V1iR (N := mX12_allOf) dX12_falls_43 lv_X12_107 mo_X12_allOf hR.cn (Nat.le_of_ble_eq_true rfl) (Nat.le_of_ble_eq_true rfl) (by decide) (s_allOf D hR (tn v) (by omega)) ?_
    refine e_if_le 59 dX12_falls_46 (by decide) (fun hcq46 => ?_) (fun hcq46 => ?_)
    · exact kk k h σ (by omega) hR hF hS hA2 (by rw [hfs, fsP, if_pos (show flP (sN s) (tn v) k = true from decide_eq_true (Int32.not_lt.mpr hcq46))])
    · refine e_aload_n dX12_falls_49 rfl ?_
      refine c_V0v (nc := 0) (ns := 0) (mc := 0) (ms := 0) (N := mX12_year) dX12_falls_50 lv_X12_271 mo_X12_year hR.cn (Nat.le_of_ble_eq_true rfl) (Nat.le_of_ble_eq_true rfl) (by decide) (s_year D hR hY) (fun h hP => ?_)
      have hG9 := hS.2.1.1
      obtain ⟨σ, hR, hE1, hF1⟩ := hP
      have hF := hF.trans hF1
      rw [hG9] at hR
      have hR : RefAt h (yrX (sN s) (sN s) (k + 1)) σ τ := hR
      have hA2 := (hE1 2 (by decide) (by decide) (by decide)).trans hA2
      have hS := hS.to (fun i hi => hE1 i hi.2.1 hi.2.2.2.1 hi.2.2.2.2.1) rfl rfl
      have hY : YW (yrX (sN s) (sN s) (k + 1)) (nvN (sN s)) (tcN (sN s)) (txN (sN s)) := yrsR_YW G0 hY0 _
      refine e_iincN (k + 1) dX12_falls_53 rfl (by decide) (nI_add _ _) ?_
      refine e_goto 36 dX12_falls_56 (by decide) ?_
      exact ih (k + 1) h σ (by omega) hR hF hS hA2 (by rw [hfs, fsP, if_neg (by rw [show flP (sN s) (tn v) k = false from decide_eq_false (fun zz => zz (Int32.not_le.mp hcq46))]; decide)])
set_option maxRecDepth 20000 in
theorem rp_falls (D : En) {h : AH} {s : SS} (hI : INV s) (hRS : RefS h s) (v : Int32) (n : Int32) : Sp D 8 mX12_falls [.ref (82), .int (v), .int (n)] h 0 0 (some (.int (f_falls s v n).1)) (fun h' => RefS h' (f_falls s v n).2 ∧ FrR h h') := by
  obtain ⟨σ, τ, hR, hS⟩ := hRS
  have hY := hI.1.1
  have hnv := hY.2.1
  have htc10 := hY.2.2.2.1
  obtain ⟨h00, hh00⟩ : ∃ z, z = h := ⟨_, rfl⟩
  have hF : FrR h00 h := by rw [hh00]; exact FrR.rf
  intro post hp
  rw [← hh00] at hp
  show Ev D 8 mX12_falls 0 [some (.ref (82)), some (.int (v)), some (.int (n)), none, none] [] h 0 0 post
  refine e_aload_n dX12_falls_0 rfl ?_
  refine e_iload_n dX12_falls_1 rfl ?_
  refine e_iconst (nI (1)) dX12_falls_2 (by decide) ?_
  refine c_V2iR (N := mX12_is) dX12_falls_3 lv_X12_103 mo_X12_is hR.cn (Nat.le_of_ble_eq_true rfl) (Nat.le_of_ble_eq_true rfl) (by decide) (s_is D hR ((v)) (1) (by omega)) ?_
  refine e_if_eqB 16 dX12_falls_6 (by decide) (fun hcq6 => ?_) (fun hcq6 => ?_)
  · refine e_aload_n dX12_falls_16 rfl ?_
    refine e_ldc dX12_falls_17 w_1294 ?_
    refine c_V1i (nc := 0) (ns := 0) (mc := 0) (ms := 0) (N := mX12_finding) dX12_falls_19 lv_X12_90 mo_X12_finding hR.cn (Nat.le_of_ble_eq_true rfl) (Nat.le_of_ble_eq_true rfl) (by decide) (s_finding D hR 1 (by decide) (((-1000000001))) fE1) (fun h hP => ?_)
    obtain ⟨hR, hF1⟩ := hP
    have hF := hF.trans hF1
    have hS := hS.er 1
    refine e_top (lowE 1) lE1 ?_
    have e9 : f_falls s v n = er 1 (s) := by rw [f_falls, if_neg hcq6]
    rw [e9] at hp
    exact e_iret dX12_falls_22 rfl (hp _ ⟨⟨_, _, hR, hS⟩, hF⟩)
  · obtain ⟨hn_v, hl_v⟩ := isN hcq6 hY.1 (by omega)
    refine e_iload_n dX12_falls_9 rfl ?_
    refine c_S1iR (N := mX12_isAhead) dX12_falls_10 ls_X12_281 mo_X12_isAhead  (Nat.le_of_ble_eq_true rfl) (Nat.le_of_ble_eq_true rfl) (by decide) (s_isAhead D ((n))) ?_
    refine e_if_neB 23 dX12_falls_13 (by decide) (fun hcq13 => ?_) (fun hcq13 => ?_)
    · obtain ⟨hn_n, hg_n, hl_n⟩ := wiN hcq13 (by decide) (by decide)
      refine e_aload_n dX12_falls_23 rfl ?_
      refine e_get dX12_falls_24 fl_X12_9_12 hR.1 rfl ?_
      refine e_aload_n dX12_falls_27 rfl ?_
      refine e_get dX12_falls_28 fl_X12_16_12 hR.1 rfl ?_
      refine c_S2v (nc := 0) (ns := 0) (mc := 0) (ms := 0) (N := mX12_copy) dX12_falls_31 ls_X12_277 mo_X12_copy  (Nat.le_of_ble_eq_true rfl) (Nat.le_of_ble_eq_true rfl) (by decide) (s_copyNA D hR) (fun h hP => ?_)
      obtain ⟨hR, hF1⟩ := hP
      have hF := hF.trans hF1
      obtain ⟨σ, hR, hA2, hS⟩ : ∃ z, RefAt h (sN s) z τ ∧ z 2 = sN s ∧ RS z τ s := ⟨_, hR, va_upS _ _ _, hS.to (fun i hi => va_upN _ _ hi.1) rfl rfl⟩
      refine e_iconst (nI (0)) dX12_falls_34 (by decide) ?_
      refine e_istore_n dX12_falls_35 (by decide) ?_
      refine lp_falls D hI v n hn_v hl_v hn_n (by omega) (fun k h σ hk40 hR hF hS hA2 hfs => ?_) (tn n) 0 h σ (by omega) hR hF hS hA2 rfl
      have hY : YW (yrX (sN s) (sN s) k) (nvN (sN s)) (tcN (sN s)) (txN (sN s)) := yrsR_YW G0 hI.1.1 k
      refine e_aload_n dX12_falls_59 rfl ?_
      refine e_iload_n dX12_falls_60 rfl ?_
      refine e_top (nI (tn v)) (hn_v) ?_
      refine c_V1iR (N := mX12_allOf) dX12_falls_61 lv_X12_107 mo_X12_allOf hR.cn (Nat.le_of_ble_eq_true rfl) (Nat.le_of_ble_eq_true rfl) (by decide) (s_allOf D hR (tn v) (by omega)) ?_
      refine e_if_ne 71 dX12_falls_64 (by decide) (fun hcq64 => ?_) (fun hcq64 => ?_)
      · refine e_iconst (nI (0)) dX12_falls_71 (by decide) ?_
        refine e_istore dX12_falls_72 (by decide) ?_
        refine e_aload_n dX12_falls_74 rfl ?_
        refine e_iconst (nI (0)) dX12_falls_75 (by decide) ?_
        refine c_V1i (nc := 0) (ns := 0) (mc := 0) (ms := 0) (N := mX12_back) dX12_falls_76 lv_X12_290 mo_X12_back hR.cn (Nat.le_of_ble_eq_true rfl) (Nat.le_of_ble_eq_true rfl) (by decide) (s_back D hR (nI (0))) (fun h hP => ?_)
        obtain ⟨hR, hF1⟩ := hP
        have hF := hF.trans hF1
        rw [hA2] at hR
        have hY := hI.1.1
        refine e_if_neN 91 dX12_falls_79 (by decide) (by omega) (fun hcq79 => absurd hcq79 (by decide)) (fun hcq79 => ?_)
        refine e_iload dX12_falls_82 rfl ?_
        refine e_if_eqN 91 dX12_falls_84 (by decide) (by omega) (fun hcq84 => ?_) (fun hcq84 => absurd hcq84 (by decide))
        refine e_aload_n dX12_falls_91 rfl ?_
        refine e_ldc dX12_falls_92 w_1340 ?_
        refine c_V1i (nc := 0) (ns := 0) (mc := 0) (ms := 0) (N := mX12_finding) dX12_falls_94 lv_X12_90 mo_X12_finding hR.cn (Nat.le_of_ble_eq_true rfl) (Nat.le_of_ble_eq_true rfl) (by decide) (s_finding D hR 2 (by decide) (((-1000000002))) fE2) (fun h hP => ?_)
        obtain ⟨hR, hF1⟩ := hP
        have hF := hF.trans hF1
        have hS := hS.er 2
        refine e_top (lowE 2) lE2 ?_
        have e9 : f_falls s v n = er 2 (s) := by rw [f_falls, if_pos hcq6, if_pos hcq13, hfs]; exact if_neg hcq64
        rw [e9] at hp
        exact e_iret dX12_falls_97 rfl (hp _ ⟨⟨_, _, hR, hS⟩, hF⟩)
      · refine e_iconst (nI (1)) dX12_falls_67 (by decide) ?_
        refine e_goto 72 dX12_falls_68 (by decide) ?_
        refine e_istore dX12_falls_72 (by decide) ?_
        refine e_aload_n dX12_falls_74 rfl ?_
        refine e_iconst (nI (0)) dX12_falls_75 (by decide) ?_
        refine c_V1i (nc := 0) (ns := 0) (mc := 0) (ms := 0) (N := mX12_back) dX12_falls_76 lv_X12_290 mo_X12_back hR.cn (Nat.le_of_ble_eq_true rfl) (Nat.le_of_ble_eq_true rfl) (by decide) (s_back D hR (nI (0))) (fun h hP => ?_)
        obtain ⟨hR, hF1⟩ := hP
        have hF := hF.trans hF1
        rw [hA2] at hR
        have hY := hI.1.1
        refine e_if_neN 91 dX12_falls_79 (by decide) (by omega) (fun hcq79 => absurd hcq79 (by decide)) (fun hcq79 => ?_)
        refine e_iload dX12_falls_82 rfl ?_
        refine e_if_eqN 91 dX12_falls_84 (by decide) (by omega) (fun hcq84 => absurd hcq84 (by decide)) (fun hcq84 => ?_)
        refine e_iload_n dX12_falls_87 rfl ?_
        refine e_goto 97 dX12_falls_88 (by decide) ?_
        have e9 : f_falls s v n = (nI (k), s) := by rw [f_falls, if_pos hcq6, if_pos hcq13, hfs]; exact if_pos hcq64
        rw [e9] at hp
        exact e_iret dX12_falls_97 rfl (hp _ ⟨⟨_, _, hR, hS⟩, hF⟩)
    · refine e_aload_n dX12_falls_16 rfl ?_
      refine e_ldc dX12_falls_17 w_1294 ?_
      refine c_V1i (nc := 0) (ns := 0) (mc := 0) (ms := 0) (N := mX12_finding) dX12_falls_19 lv_X12_90 mo_X12_finding hR.cn (Nat.le_of_ble_eq_true rfl) (Nat.le_of_ble_eq_true rfl) (by decide) (s_finding D hR 1 (by decide) (((-1000000001))) fE1) (fun h hP => ?_)
      obtain ⟨hR, hF1⟩ := hP
      have hF := hF.trans hF1
      have hS := hS.er 1
      refine e_top (lowE 1) lE1 ?_
      have e9 : f_falls s v n = er 1 (s) := by rw [f_falls, if_pos hcq6, if_neg hcq13]
      rw [e9] at hp
      exact e_iret dX12_falls_22 rfl (hp _ ⟨⟨_, _, hR, hS⟩, hF⟩)
