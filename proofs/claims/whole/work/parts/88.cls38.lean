theorem ClsS.shr {h h' : AH} {s : SS} {w z q : Nat → Int32} (hC : ClsS h s) {g : Nat} (hg : g < 4) (hF : FO (74 + 2 * g) h h') {f : Nat → Int32} (hr : RW h' (74 + 2 * g) 40 f (z g) (w g)) (he : ∀ i, i < 40 → f i = q (40 * g + i)) (hw : ∀ j, j < 4 → j ≠ g → w j = sW s j) (hz : ∀ j, j < 4 → j ≠ g → z j = sZ s j) (hq : ∀ j, j < 40 * g ∨ 40 * g + 40 ≤ j → q j = sQ s j) : ClsS h' (wH s w z q) := by
  have hB : RB h' := by
    intro r fs h6
    by_cases e1 : r = 74 + 2 * g
    · rw [e1] at h6; cases hr.1.symm.trans h6
    by_cases e2 : r = 74 + 2 * g + 1
    · rw [e2] at h6; cases hr.2.symm.trans h6
    rw [hF.2 r e1 e2] at h6
    obtain ⟨q1, ⟨gs, q2⟩, ⟨c, q3⟩, ⟨p, q4⟩⟩ := hC.rb r fs h6
    exact ⟨q1, ⟨gs, (hF.2 _ (by omega) (by omega)).trans q2⟩, ⟨c, (hF.2 _ (by omega) (by omega)).trans q3⟩, ⟨p, (hF.2 _ (by omega) (by omega)).trans q4⟩⟩
  refine hC.mv (fun x => x = 74 + 2 * g ∨ x = 74 + 2 * g + 1) (fun x c a b => Or.inl ((hF.2 x (by omega) (by omega)).trans b)) hB (by rw [hF.1]; exact Nat.le_refl _) (fun x a b => hF.2 x (by omega) (by omega)) (fun x a b => by omega) (Or.inl ⟨by omega, rfl⟩) (Or.inl ⟨fun x _ _ => by omega, rfl⟩) (Or.inl ⟨fun x _ _ => by omega, rfl, rfl⟩) (Or.inl (fun x _ _ => by omega)) (Or.inl (fun x _ _ => by omega)) (by omega) (Or.inl ⟨by omega, by omega, rfl⟩) (Or.inl ⟨by omega, rfl⟩) (Or.inr (fun j hj => ?_))
  by_cases e : j = g
  · subst e
    exact ⟨f, hr, he⟩
  · obtain ⟨f2, r2, x2⟩ := hC.cr j hj
    refine ⟨f2, ?_, fun i hi => ?_⟩
    · show RW h' _ 40 f2 (z j) (w j)
      rw [hw j hj e, hz j hj e]
      exact r2.same (hF.2 _ (by omega) (by omega)) (hF.2 _ (by omega) (by omega))
    · rw [x2 i hi]
      exact (hq _ (by omega)).symm
theorem zeW_get (Q : Nat → Int32) (b k j : Nat) : zeW Q b k j = if b ≤ j ∧ j < b + k then nI 0 else Q j := by
  induction k with
  | zero => rw [zeW, if_neg (by omega)]
  | succ k ih =>
    rw [zeW]
    by_cases e : j = b + k
    · rw [e, pk_us, if_pos (by omega)]
    · rw [pk_un e, ih]
      by_cases q : b ≤ j ∧ j < b + k
      · rw [if_pos q, if_pos (by omega)]
      · rw [if_neg q, if_neg (by omega)]
theorem mvB_get (Q : Nat → Int32) (a b k j : Nat) : mvB Q a b k j = if b ≤ j ∧ j < b + k then Q (a + (j - b)) else Q j := by
  induction k with
  | zero => rw [mvB, if_neg (by omega)]
  | succ k ih =>
    rw [mvB]
    by_cases e : j = b + k
    · rw [e, pk_us, if_pos (by omega), show b + k - b = k by omega]
    · rw [pk_un e, ih]
      by_cases q : b ≤ j ∧ j < b + k
      · rw [if_pos q, if_pos (by omega)]
      · rw [if_neg q, if_neg (by omega)]
theorem ClsS.put {h : AH} {s : SS} (hC : ClsS h s) {g i : Nat} (hg : g < 4) (hi : i < 40) {f : Nat → Int32} (hr : RW h (74 + 2 * g) 40 f (sZ s g) (sW s g)) (he : ∀ j, j < 40 → f j = sQ s (40 * g + j)) (v : Int32) : ClsS (h.set (74 + 2 * g + 1) (.inl (0, 40, .inl (upd f i v)))) (wH s (sW s) (sZ s) (upd (sQ s) (40 * g + i) v)) := by
  refine hC.shr hg (FO.rf.set (Or.inr rfl)) ⟨getset hr.1 (by omega), getself hr.2⟩ (fun j hj => ?_) (fun _ _ _ => rfl) (fun _ _ _ => rfl) (fun j hj => pk_un (by omega))
  by_cases e : j = i
  · rw [e, pk_us]; exact pk_us.symm
  · rw [pk_un e, he j hj]; exact (pk_un (by omega)).symm
theorem ClsS.shape {h h' : AH} {s : SS} (hC : ClsS h s) {g : Nat} (hg : g < 4) {b n : Int32} (hP : ∃ f, RW h' (74 + 2 * g) 40 f n b ∧ (∀ i, i < 40 → f i = nI 0) ∧ FO (74 + 2 * g) h h') : ClsS h' (shS s g b n) := by
  obtain ⟨f, r, z, F⟩ := hP
  refine hC.shr hg F (f := f) ?_ (fun i hi => ?_) (fun j _ e => pk_un e) (fun j _ e => pk_un e) (fun j hj => ?_)
  · rw [pk_us, pk_us]; exact r
  · rw [z i hi, zeW_get, if_pos (by omega)]
  · rw [zeW_get, if_neg (by omega)]
theorem ClsS.move {h : AH} {s : SS} (hC : ClsS h s) {g e i j n : Nat} (hg : g < 4) (he : e < 4) (hi : i + n ≤ 40) (hj : j + n ≤ 40) {f1 f2 : Nat → Int32} (h1 : ∀ k, k < 40 → f1 k = sQ s (40 * g + k)) (hr : RW h (74 + 2 * e) 40 f2 (sZ s e) (sW s e)) (h2 : ∀ k, k < 40 → f2 k = sQ s (40 * e + k)) : ClsS (h.set (74 + 2 * e + 1) (.inl (0, 40, .inl (va_cpy f1 f2 i j n)))) (wH s (sW s) (sZ s) (mvB (sQ s) (40 * g + i) (40 * e + j) n)) := by
  refine hC.shr he (FO.rf.set (Or.inr rfl)) ⟨getset hr.1 (by omega), getself hr.2⟩ (fun k hk => ?_) (fun _ _ _ => rfl) (fun _ _ _ => rfl) (fun k hk => ?_)
  · rw [mvB_get]
    unfold va_cpy
    by_cases q : j ≤ k ∧ k < j + n
    · rw [if_pos q, if_pos (by omega), h1 _ (by omega)]
      congr 1
      omega
    · rw [if_neg q, if_neg (by omega), h2 k hk]
  · rw [mvB_get, if_neg (by omega)]
set_option maxRecDepth 20000 in
theorem cp_put (D : En) {h : AH} {s : SS} (hI : INV s) (hC : ClsS h s) (g : Int32) (i : Int32) (x : Int32) : Sp D 2 mX11_put [.ref (11), .int (g), .int (i), .int (x)] h 0 0 (some (.int (f_put s g i x).1)) (fun h' => ClsS h' (f_put s g i x).2 ∧ FrC h h') := by
  have hY := hI.1.1
  have hnv := hY.2.1
  have htc10 := hY.2.2.2.1
  obtain ⟨h00, hh00⟩ : ∃ z, z = h := ⟨_, rfl⟩
  have hF : FrC h00 h := by rw [hh00]; exact FrC.rf
  intro post hp
  rw [← hh00] at hp
  show Ev D 2 mX11_put 0 [some (.ref (11)), some (.int (g)), some (.int (i)), some (.int (x)), none] [] h 0 0 post
  refine e_aload_n dX11_put_0 rfl ?_
  refine e_iload_n dX11_put_1 rfl ?_
  refine c_V1iR (N := mX11_isSheet) dX11_put_2 lv_X11_87 mo_X11_isSheet hC.cn (Nat.le_of_ble_eq_true rfl) (Nat.le_of_ble_eq_true rfl) (by decide) (c_isS D hC ((g))) ?_
  refine e_if_neB 14 dX11_put_5 (by decide) (fun hcq5 => ?_) (fun hcq5 => ?_)
  · obtain ⟨hn_g, hg_g, hl_g⟩ := wiN hcq5 (by decide) (by decide)
    refine e_aload_n dX11_put_14 rfl ?_
    refine e_get dX11_put_15 fl_X11_35_11 hC.1 rfl ?_
    refine e_iload_n dX11_put_18 rfl ?_
    refine e_top (nI (tn g)) (hn_g) ?_
    obtain ⟨T66, hT66, eT66⟩ := hC.ch
    obtain ⟨fG, hRG, heG⟩ := hC.cr (tn g) (by omega)
    have hRG0 := hRG
    rw [(hI.2.2 (tn g) (by omega)).1] at hRG
    have hzG := (hI.2.2 (tn g) (by omega)).2
    refine e_ald (v := some (74 + 2 * tn g)) (tn g) dX11_put_19 hT66 (Or.inr (Or.inr (Or.inl rfl))) rfl (by omega) (by decide) (eT66 _ (by omega)) ?_
    refine e_astore dX11_put_20 (by decide) ?_
    refine e_aload dX11_put_22 rfl ?_
    refine e_get dX11_put_24 fl_X11_90_5 hRG.1 rfl ?_
    refine e_if_ne 36 dX11_put_27 (by decide) (fun hcq27 => ?_) (fun hcq27 => ?_)
    · refine e_aload dX11_put_36 rfl ?_
      refine e_iload_n dX11_put_38 rfl ?_
      refine c_V1iR (N := mX5_has) dX11_put_39 lv_X11_303 mo_X5_has hRG.cn (Nat.le_of_ble_eq_true rfl) (Nat.le_of_ble_eq_true rfl) (by decide) (k_rhas D hRG (by omega) (i)) ?_
      refine e_if_neB 51 dX11_put_42 (by decide) (fun hcq42 => ?_) (fun hcq42 => ?_)
      · obtain ⟨hn_i, hl_i⟩ := isN hcq42 rfl (by omega)
        refine e_aload dX11_put_51 rfl ?_
        refine e_get dX11_put_53 fl_X11_96_5 hRG.1 rfl ?_
        refine e_iload_n dX11_put_56 rfl ?_
        refine e_top (nI (tn i)) (hn_i) ?_
        refine e_aload dX11_put_57 rfl ?_
        refine e_iload_n dX11_put_59 rfl ?_
        refine c_V1iR (N := mX5_narrowed) dX11_put_60 lv_X11_310 mo_X5_narrowed hRG.cn (Nat.le_of_ble_eq_true rfl) (Nat.le_of_ble_eq_true rfl) (by decide) (k_rnar D hRG ((x))) ?_
        refine e_ist (tn i) dX11_put_63 hRG.2 rfl (by omega) (by decide) ?_
        have hF := hF.set (c := .inl (0, 40, .inl (upd fG (tn i) ((narW (sW s (tn g)) ((x))))))) (show 11 ≤ 74 + 2 * tn g + 1 by omega) (show 74 + 2 * tn g + 1 < 82 by omega)
        have hC := hC.put (i := tn i) (by omega) (by omega) hRG0 heG ((narW (sW s (tn g)) ((x))))
        refine e_iconst (nI (1)) dX11_put_64 (by decide) ?_
        have e9 : f_put s g i x = (nI (1), wH s (sW s) (sZ s) (upd (sQ s) (40 * tn g + tn i) ((narW (sW s (tn g)) ((x)))))) := by rw [f_put, if_pos hcq5, if_neg hcq27, if_pos hcq42]
        rw [e9] at hp
        exact e_iret dX11_put_65 rfl (hp _ ⟨hC, hF⟩)
      · refine e_aload_n dX11_put_45 rfl ?_
        refine e_iconst (nI (1)) dX11_put_46 (by decide) ?_
        refine c_V1i (nc := 0) (ns := 0) (mc := 0) (ms := 0) (N := mX11_error) dX11_put_47 lv_X11_54 mo_X11_error hC.cn (Nat.le_of_ble_eq_true rfl) (Nat.le_of_ble_eq_true rfl) (by decide) (c_error D hC 1 (by decide)) (fun h hP => ?_)
        obtain ⟨hC, hF1⟩ := hP
        have hF := hF.trans hF1
        have e9 : f_put s g i x = er 1 (s) := by rw [f_put, if_pos hcq5, if_neg hcq27, if_neg hcq42]
        rw [e9] at hp
        exact e_iret dX11_put_50 rfl (hp _ ⟨hC, hF⟩)
    · refine e_aload_n dX11_put_30 rfl ?_
      refine e_iconst (nI (2)) dX11_put_31 (by decide) ?_
      refine c_V1i (nc := 0) (ns := 0) (mc := 0) (ms := 0) (N := mX11_error) dX11_put_32 lv_X11_54 mo_X11_error hC.cn (Nat.le_of_ble_eq_true rfl) (Nat.le_of_ble_eq_true rfl) (by decide) (c_error D hC 2 (by decide)) (fun h hP => ?_)
      obtain ⟨hC, hF1⟩ := hP
      have hF := hF.trans hF1
      have e9 : f_put s g i x = er 2 (s) := by rw [f_put, if_pos hcq5, if_pos hcq27]
      rw [e9] at hp
      exact e_iret dX11_put_35 rfl (hp _ ⟨hC, hF⟩)
  · refine e_aload_n dX11_put_8 rfl ?_
    refine e_iconst (nI (1)) dX11_put_9 (by decide) ?_
    refine c_V1i (nc := 0) (ns := 0) (mc := 0) (ms := 0) (N := mX11_error) dX11_put_10 lv_X11_54 mo_X11_error hC.cn (Nat.le_of_ble_eq_true rfl) (Nat.le_of_ble_eq_true rfl) (by decide) (c_error D hC 1 (by decide)) (fun h hP => ?_)
    obtain ⟨hC, hF1⟩ := hP
    have hF := hF.trans hF1
    have e9 : f_put s g i x = er 1 (s) := by rw [f_put, if_neg hcq5]
    rw [e9] at hp
    exact e_iret dX11_put_13 rfl (hp _ ⟨hC, hF⟩)
set_option maxRecDepth 20000 in
theorem cp_sheet (D : En) {h : AH} {s : SS} (hI : INV s) (hC : ClsS h s) (g : Int32) (b : Int32) (n : Int32) : Sp D 2 mX11_sheet [.ref (11), .int (g), .int (b), .int (n)] h 0 0 (some (.int (f_sheet s g b n).1)) (fun h' => ClsS h' (f_sheet s g b n).2 ∧ FrC h h') := by
  have hY := hI.1.1
  have hnv := hY.2.1
  have htc10 := hY.2.2.2.1
  obtain ⟨h00, hh00⟩ : ∃ z, z = h := ⟨_, rfl⟩
  have hF : FrC h00 h := by rw [hh00]; exact FrC.rf
  intro post hp
  rw [← hh00] at hp
  show Ev D 2 mX11_sheet 0 [some (.ref (11)), some (.int (g)), some (.int (b)), some (.int (n))] [] h 0 0 post
  refine e_aload_n dX11_sheet_0 rfl ?_
  refine e_iload_n dX11_sheet_1 rfl ?_
  refine c_V1iR (N := mX11_isSheet) dX11_sheet_2 lv_X11_87 mo_X11_isSheet hC.cn (Nat.le_of_ble_eq_true rfl) (Nat.le_of_ble_eq_true rfl) (by decide) (c_isS D hC ((g))) ?_
  refine e_if_eqB 30 dX11_sheet_5 (by decide) (fun hcq5 => ?_) (fun hcq5 => ?_)
  · refine e_aload_n dX11_sheet_30 rfl ?_
    refine e_iconst (nI (1)) dX11_sheet_31 (by decide) ?_
    refine c_V1i (nc := 0) (ns := 0) (mc := 0) (ms := 0) (N := mX11_error) dX11_sheet_32 lv_X11_54 mo_X11_error hC.cn (Nat.le_of_ble_eq_true rfl) (Nat.le_of_ble_eq_true rfl) (by decide) (c_error D hC 1 (by decide)) (fun h hP => ?_)
    obtain ⟨hC, hF1⟩ := hP
    have hF := hF.trans hF1
    have e9 : f_sheet s g b n = er 1 (s) := by rw [f_sheet, if_neg hcq5]
    rw [e9] at hp
    exact e_iret dX11_sheet_35 rfl (hp _ ⟨hC, hF⟩)
  · obtain ⟨hn_g, hg_g, hl_g⟩ := wiN hcq5 (by decide) (by decide)
    refine e_iload_n dX11_sheet_8 rfl ?_
    refine e_if_eq 36 dX11_sheet_9 (by decide) (fun hcq9 => ?_) (fun hcq9 => ?_)
    · refine e_iload_n dX11_sheet_36 rfl ?_
      refine e_if_ne 53 dX11_sheet_37 (by decide) (fun hcq37 => absurd hcq9 hcq37) (fun hcq37 => ?_)
      refine e_aload_n dX11_sheet_40 rfl ?_
      refine e_get dX11_sheet_41 fl_X11_35_11 hC.1 rfl ?_
      refine e_iload_n dX11_sheet_44 rfl ?_
      refine e_top (nI (tn g)) (hn_g) ?_
      obtain ⟨T66, hT66, eT66⟩ := hC.ch
      obtain ⟨fG, hRG, heG⟩ := hC.cr (tn g) (by omega)
      have hRG0 := hRG
      rw [(hI.2.2 (tn g) (by omega)).1] at hRG
      have hzG := (hI.2.2 (tn g) (by omega)).2
      refine e_ald (v := some (74 + 2 * tn g)) (tn g) dX11_sheet_45 hT66 (Or.inr (Or.inr (Or.inl rfl))) rfl (by omega) (by decide) (eT66 _ (by omega)) ?_
      refine e_iconst (nI (0)) dX11_sheet_46 (by decide) ?_
      refine e_iconst (nI (0)) dX11_sheet_47 (by decide) ?_
      refine c_V2v (nc := 0) (ns := 0) (mc := 0) (ms := 0) (N := mX5_shape) dX11_sheet_48 lv_X11_306 mo_X5_shape hRG0.cn (Nat.le_of_ble_eq_true rfl) (Nat.le_of_ble_eq_true rfl) (by decide) (k_rshape D hRG0 (nI (0)) (nI (0)) ⟨by decide, by decide⟩) (fun h hP => ?_)
      have hF : FrC h00 h := hF.trans (hP.choose_spec.2.2.frc (by omega) (by omega))
      have hC := hC.shape (by omega) hP
      refine e_iconst (nI (1)) dX11_sheet_51 (by decide) ?_
      have e9 : f_sheet s g b n = (nI (1), shS s (tn g) (nI (0)) (nI (0))) := by rw [f_sheet, if_pos hcq5, if_pos hcq9]; rw [hcq9]; rfl
      rw [e9] at hp
      exact e_iret dX11_sheet_52 rfl (hp _ ⟨hC, hF⟩)
    · refine e_iload_n dX11_sheet_12 rfl ?_
      refine e_bipush (nI (8)) dX11_sheet_13 (by decide) ?_
      refine e_icmp_eq 36 dX11_sheet_15 (by decide) (fun hcq15 => ?_) (fun hcq15 => ?_)
      · refine e_iload_n dX11_sheet_36 rfl ?_
        refine e_if_ne 53 dX11_sheet_37 (by decide) (fun hcq37 => ?_) (fun hcq37 => absurd hcq37 hcq9)
        refine e_iload_n dX11_sheet_53 rfl ?_
        refine e_if_ge 63 dX11_sheet_54 (by decide) (fun hcq54 => ?_) (fun hcq54 => ?_)
        · refine e_iload_n dX11_sheet_63 rfl ?_
          refine e_bipush (nI (40)) dX11_sheet_64 (by decide) ?_
          refine e_icmp_le 75 dX11_sheet_66 (by decide) (fun hcq66 => ?_) (fun hcq66 => ?_)
          · refine e_aload_n dX11_sheet_75 rfl ?_
            refine e_get dX11_sheet_76 fl_X11_35_11 hC.1 rfl ?_
            refine e_iload_n dX11_sheet_79 rfl ?_
            refine e_top (nI (tn g)) (hn_g) ?_
            obtain ⟨T66, hT66, eT66⟩ := hC.ch
            obtain ⟨fG, hRG, heG⟩ := hC.cr (tn g) (by omega)
            have hRG0 := hRG
            rw [(hI.2.2 (tn g) (by omega)).1] at hRG
            have hzG := (hI.2.2 (tn g) (by omega)).2
            refine e_ald (v := some (74 + 2 * tn g)) (tn g) dX11_sheet_80 hT66 (Or.inr (Or.inr (Or.inl rfl))) rfl (by omega) (by decide) (eT66 _ (by omega)) ?_
            refine e_iload_n dX11_sheet_81 rfl ?_
            refine e_iload_n dX11_sheet_82 rfl ?_
            refine c_V2v (nc := 0) (ns := 0) (mc := 0) (ms := 0) (N := mX5_shape) dX11_sheet_83 lv_X11_306 mo_X5_shape hRG0.cn (Nat.le_of_ble_eq_true rfl) (Nat.le_of_ble_eq_true rfl) (by decide) (k_rshape D hRG0 ((b)) ((n)) ⟨hcq54, hcq66⟩) (fun h hP => ?_)
            have hF : FrC h00 h := hF.trans (hP.choose_spec.2.2.frc (by omega) (by omega))
            have hC := hC.shape (by omega) hP
            refine e_iconst (nI (1)) dX11_sheet_86 (by decide) ?_
            have e9 : f_sheet s g b n = (nI (1), shS s (tn g) ((b)) ((n))) := by rw [f_sheet, if_pos hcq5, if_neg hcq9, if_pos (Or.inl hcq15), if_pos hcq54, if_pos hcq66]
            rw [e9] at hp
            exact e_iret dX11_sheet_87 rfl (hp _ ⟨hC, hF⟩)
          · refine e_aload_n dX11_sheet_69 rfl ?_
            refine e_iconst (nI (1)) dX11_sheet_70 (by decide) ?_
            refine c_V1i (nc := 0) (ns := 0) (mc := 0) (ms := 0) (N := mX11_error) dX11_sheet_71 lv_X11_54 mo_X11_error hC.cn (Nat.le_of_ble_eq_true rfl) (Nat.le_of_ble_eq_true rfl) (by decide) (c_error D hC 1 (by decide)) (fun h hP => ?_)
            obtain ⟨hC, hF1⟩ := hP
            have hF := hF.trans hF1
            have e9 : f_sheet s g b n = er 1 (s) := by rw [f_sheet, if_pos hcq5, if_neg hcq9, if_pos (Or.inl hcq15), if_pos hcq54, if_neg hcq66]
            rw [e9] at hp
            exact e_iret dX11_sheet_74 rfl (hp _ ⟨hC, hF⟩)
        · refine e_aload_n dX11_sheet_57 rfl ?_
          refine e_iconst (nI (3)) dX11_sheet_58 (by decide) ?_
          refine c_V1i (nc := 0) (ns := 0) (mc := 0) (ms := 0) (N := mX11_error) dX11_sheet_59 lv_X11_54 mo_X11_error hC.cn (Nat.le_of_ble_eq_true rfl) (Nat.le_of_ble_eq_true rfl) (by decide) (c_error D hC 3 (by decide)) (fun h hP => ?_)
          obtain ⟨hC, hF1⟩ := hP
          have hF := hF.trans hF1
          have e9 : f_sheet s g b n = er 3 (s) := by rw [f_sheet, if_pos hcq5, if_neg hcq9, if_pos (Or.inl hcq15), if_neg hcq54]
          rw [e9] at hp
          exact e_iret dX11_sheet_62 rfl (hp _ ⟨hC, hF⟩)
      · refine e_iload_n dX11_sheet_18 rfl ?_
        refine e_bipush (nI (16)) dX11_sheet_19 (by decide) ?_
        refine e_icmp_eq 36 dX11_sheet_21 (by decide) (fun hcq21 => ?_) (fun hcq21 => ?_)
        · refine e_iload_n dX11_sheet_36 rfl ?_
          refine e_if_ne 53 dX11_sheet_37 (by decide) (fun hcq37 => ?_) (fun hcq37 => absurd hcq37 hcq9)
          refine e_iload_n dX11_sheet_53 rfl ?_
          refine e_if_ge 63 dX11_sheet_54 (by decide) (fun hcq54 => ?_) (fun hcq54 => ?_)
          · refine e_iload_n dX11_sheet_63 rfl ?_
            refine e_bipush (nI (40)) dX11_sheet_64 (by decide) ?_
            refine e_icmp_le 75 dX11_sheet_66 (by decide) (fun hcq66 => ?_) (fun hcq66 => ?_)
            · refine e_aload_n dX11_sheet_75 rfl ?_
              refine e_get dX11_sheet_76 fl_X11_35_11 hC.1 rfl ?_
              refine e_iload_n dX11_sheet_79 rfl ?_
              refine e_top (nI (tn g)) (hn_g) ?_
              obtain ⟨T66, hT66, eT66⟩ := hC.ch
              obtain ⟨fG, hRG, heG⟩ := hC.cr (tn g) (by omega)
              have hRG0 := hRG
              rw [(hI.2.2 (tn g) (by omega)).1] at hRG
              have hzG := (hI.2.2 (tn g) (by omega)).2
              refine e_ald (v := some (74 + 2 * tn g)) (tn g) dX11_sheet_80 hT66 (Or.inr (Or.inr (Or.inl rfl))) rfl (by omega) (by decide) (eT66 _ (by omega)) ?_
              refine e_iload_n dX11_sheet_81 rfl ?_
              refine e_iload_n dX11_sheet_82 rfl ?_
              refine c_V2v (nc := 0) (ns := 0) (mc := 0) (ms := 0) (N := mX5_shape) dX11_sheet_83 lv_X11_306 mo_X5_shape hRG0.cn (Nat.le_of_ble_eq_true rfl) (Nat.le_of_ble_eq_true rfl) (by decide) (k_rshape D hRG0 ((b)) ((n)) ⟨hcq54, hcq66⟩) (fun h hP => ?_)
              have hF : FrC h00 h := hF.trans (hP.choose_spec.2.2.frc (by omega) (by omega))
              have hC := hC.shape (by omega) hP
              refine e_iconst (nI (1)) dX11_sheet_86 (by decide) ?_
              have e9 : f_sheet s g b n = (nI (1), shS s (tn g) ((b)) ((n))) := by rw [f_sheet, if_pos hcq5, if_neg hcq9, if_pos (Or.inr (Or.inl hcq21)), if_pos hcq54, if_pos hcq66]
              rw [e9] at hp
              exact e_iret dX11_sheet_87 rfl (hp _ ⟨hC, hF⟩)
            · refine e_aload_n dX11_sheet_69 rfl ?_
              refine e_iconst (nI (1)) dX11_sheet_70 (by decide) ?_
              refine c_V1i (nc := 0) (ns := 0) (mc := 0) (ms := 0) (N := mX11_error) dX11_sheet_71 lv_X11_54 mo_X11_error hC.cn (Nat.le_of_ble_eq_true rfl) (Nat.le_of_ble_eq_true rfl) (by decide) (c_error D hC 1 (by decide)) (fun h hP => ?_)
              obtain ⟨hC, hF1⟩ := hP
              have hF := hF.trans hF1
              have e9 : f_sheet s g b n = er 1 (s) := by rw [f_sheet, if_pos hcq5, if_neg hcq9, if_pos (Or.inr (Or.inl hcq21)), if_pos hcq54, if_neg hcq66]
              rw [e9] at hp
              exact e_iret dX11_sheet_74 rfl (hp _ ⟨hC, hF⟩)
          · refine e_aload_n dX11_sheet_57 rfl ?_
            refine e_iconst (nI (3)) dX11_sheet_58 (by decide) ?_
            refine c_V1i (nc := 0) (ns := 0) (mc := 0) (ms := 0) (N := mX11_error) dX11_sheet_59 lv_X11_54 mo_X11_error hC.cn (Nat.le_of_ble_eq_true rfl) (Nat.le_of_ble_eq_true rfl) (by decide) (c_error D hC 3 (by decide)) (fun h hP => ?_)
            obtain ⟨hC, hF1⟩ := hP
            have hF := hF.trans hF1
            have e9 : f_sheet s g b n = er 3 (s) := by rw [f_sheet, if_pos hcq5, if_neg hcq9, if_pos (Or.inr (Or.inl hcq21)), if_neg hcq54]
            rw [e9] at hp
            exact e_iret dX11_sheet_62 rfl (hp _ ⟨hC, hF⟩)
        · refine e_iload_n dX11_sheet_24 rfl ?_
          refine e_bipush (nI (32)) dX11_sheet_25 (by decide) ?_
          refine e_icmp_eq 36 dX11_sheet_27 (by decide) (fun hcq27 => ?_) (fun hcq27 => ?_)
          · refine e_iload_n dX11_sheet_36 rfl ?_
            refine e_if_ne 53 dX11_sheet_37 (by decide) (fun hcq37 => ?_) (fun hcq37 => absurd hcq37 hcq9)
            refine e_iload_n dX11_sheet_53 rfl ?_
            refine e_if_ge 63 dX11_sheet_54 (by decide) (fun hcq54 => ?_) (fun hcq54 => ?_)
            · refine e_iload_n dX11_sheet_63 rfl ?_
              refine e_bipush (nI (40)) dX11_sheet_64 (by decide) ?_
              refine e_icmp_le 75 dX11_sheet_66 (by decide) (fun hcq66 => ?_) (fun hcq66 => ?_)
              · refine e_aload_n dX11_sheet_75 rfl ?_
                refine e_get dX11_sheet_76 fl_X11_35_11 hC.1 rfl ?_
                refine e_iload_n dX11_sheet_79 rfl ?_
                refine e_top (nI (tn g)) (hn_g) ?_
                obtain ⟨T66, hT66, eT66⟩ := hC.ch
                obtain ⟨fG, hRG, heG⟩ := hC.cr (tn g) (by omega)
                have hRG0 := hRG
                rw [(hI.2.2 (tn g) (by omega)).1] at hRG
                have hzG := (hI.2.2 (tn g) (by omega)).2
                refine e_ald (v := some (74 + 2 * tn g)) (tn g) dX11_sheet_80 hT66 (Or.inr (Or.inr (Or.inl rfl))) rfl (by omega) (by decide) (eT66 _ (by omega)) ?_
                refine e_iload_n dX11_sheet_81 rfl ?_
                refine e_iload_n dX11_sheet_82 rfl ?_
                refine c_V2v (nc := 0) (ns := 0) (mc := 0) (ms := 0) (N := mX5_shape) dX11_sheet_83 lv_X11_306 mo_X5_shape hRG0.cn (Nat.le_of_ble_eq_true rfl) (Nat.le_of_ble_eq_true rfl) (by decide) (k_rshape D hRG0 ((b)) ((n)) ⟨hcq54, hcq66⟩) (fun h hP => ?_)
                have hF : FrC h00 h := hF.trans (hP.choose_spec.2.2.frc (by omega) (by omega))
                have hC := hC.shape (by omega) hP
                refine e_iconst (nI (1)) dX11_sheet_86 (by decide) ?_
                have e9 : f_sheet s g b n = (nI (1), shS s (tn g) ((b)) ((n))) := by rw [f_sheet, if_pos hcq5, if_neg hcq9, if_pos (Or.inr (Or.inr hcq27)), if_pos hcq54, if_pos hcq66]
                rw [e9] at hp
                exact e_iret dX11_sheet_87 rfl (hp _ ⟨hC, hF⟩)
              · refine e_aload_n dX11_sheet_69 rfl ?_
                refine e_iconst (nI (1)) dX11_sheet_70 (by decide) ?_
                refine c_V1i (nc := 0) (ns := 0) (mc := 0) (ms := 0) (N := mX11_error) dX11_sheet_71 lv_X11_54 mo_X11_error hC.cn (Nat.le_of_ble_eq_true rfl) (Nat.le_of_ble_eq_true rfl) (by decide) (c_error D hC 1 (by decide)) (fun h hP => ?_)
                obtain ⟨hC, hF1⟩ := hP
                have hF := hF.trans hF1
                have e9 : f_sheet s g b n = er 1 (s) := by rw [f_sheet, if_pos hcq5, if_neg hcq9, if_pos (Or.inr (Or.inr hcq27)), if_pos hcq54, if_neg hcq66]
                rw [e9] at hp
                exact e_iret dX11_sheet_74 rfl (hp _ ⟨hC, hF⟩)
            · refine e_aload_n dX11_sheet_57 rfl ?_
              refine e_iconst (nI (3)) dX11_sheet_58 (by decide) ?_
              refine c_V1i (nc := 0) (ns := 0) (mc := 0) (ms := 0) (N := mX11_error) dX11_sheet_59 lv_X11_54 mo_X11_error hC.cn (Nat.le_of_ble_eq_true rfl) (Nat.le_of_ble_eq_true rfl) (by decide) (c_error D hC 3 (by decide)) (fun h hP => ?_)
              obtain ⟨hC, hF1⟩ := hP
              have hF := hF.trans hF1
              have e9 : f_sheet s g b n = er 3 (s) := by rw [f_sheet, if_pos hcq5, if_neg hcq9, if_pos (Or.inr (Or.inr hcq27)), if_neg hcq54]
              rw [e9] at hp
              exact e_iret dX11_sheet_62 rfl (hp _ ⟨hC, hF⟩)
          · refine e_aload_n dX11_sheet_30 rfl ?_
            refine e_iconst (nI (1)) dX11_sheet_31 (by decide) ?_
            refine c_V1i (nc := 0) (ns := 0) (mc := 0) (ms := 0) (N := mX11_error) dX11_sheet_32 lv_X11_54 mo_X11_error hC.cn (Nat.le_of_ble_eq_true rfl) (Nat.le_of_ble_eq_true rfl) (by decide) (c_error D hC 1 (by decide)) (fun h hP => ?_)
            obtain ⟨hC, hF1⟩ := hP
            have hF := hF.trans hF1
            have e9 : f_sheet s g b n = er 1 (s) := by rw [f_sheet, if_pos hcq5, if_neg hcq9, if_neg (fun q => q.elim hcq15 (fun q => q.elim hcq21 hcq27))]
            rw [e9] at hp
            exact e_iret dX11_sheet_35 rfl (hp _ ⟨hC, hF⟩)
set_option maxRecDepth 20000 in
theorem cp_move (D : En) {h : AH} {s : SS} (hI : INV s) (hC : ClsS h s) (g : Int32) (i : Int32) (e : Int32) (j : Int32) (n : Int32) : Sp D 2 mX11_move [.ref (11), .int (g), .int (i), .int (e), .int (j), .int (n)] h 0 0 (some (.int (f_move s g i e j n).1)) (fun h' => ClsS h' (f_move s g i e j n).2 ∧ FrC h h') := by
  have hY := hI.1.1
  have hnv := hY.2.1
  have htc10 := hY.2.2.2.1
  obtain ⟨h00, hh00⟩ : ∃ z, z = h := ⟨_, rfl⟩
  have hF : FrC h00 h := by rw [hh00]; exact FrC.rf
  intro post hp
  rw [← hh00] at hp
  show Ev D 2 mX11_move 0 [some (.ref (11)), some (.int (g)), some (.int (i)), some (.int (e)), some (.int (j)), some (.int (n)), none, none] [] h 0 0 post
  refine e_aload_n dX11_move_0 rfl ?_
  refine e_iload_n dX11_move_1 rfl ?_
  refine c_V1iR (N := mX11_isSheet) dX11_move_2 lv_X11_87 mo_X11_isSheet hC.cn (Nat.le_of_ble_eq_true rfl) (Nat.le_of_ble_eq_true rfl) (by decide) (c_isS D hC ((g))) ?_
  refine e_if_eqB 16 dX11_move_5 (by decide) (fun hcq5 => ?_) (fun hcq5 => ?_)
  · refine e_aload_n dX11_move_16 rfl ?_
    refine e_iconst (nI (1)) dX11_move_17 (by decide) ?_
    refine c_V1i (nc := 0) (ns := 0) (mc := 0) (ms := 0) (N := mX11_error) dX11_move_18 lv_X11_54 mo_X11_error hC.cn (Nat.le_of_ble_eq_true rfl) (Nat.le_of_ble_eq_true rfl) (by decide) (c_error D hC 1 (by decide)) (fun h hP => ?_)
    obtain ⟨hC, hF1⟩ := hP
    have hF := hF.trans hF1
    have e9 : f_move s g i e j n = er 1 (s) := by rw [f_move, if_neg hcq5]
    rw [e9] at hp
    exact e_iret dX11_move_21 rfl (hp _ ⟨hC, hF⟩)
  · obtain ⟨hn_g, hg_g, hl_g⟩ := wiN hcq5 (by decide) (by decide)
    refine e_aload_n dX11_move_8 rfl ?_
    refine e_iload_n dX11_move_9 rfl ?_
    refine c_V1iR (N := mX11_isSheet) dX11_move_10 lv_X11_87 mo_X11_isSheet hC.cn (Nat.le_of_ble_eq_true rfl) (Nat.le_of_ble_eq_true rfl) (by decide) (c_isS D hC ((e))) ?_
    refine e_if_neB 22 dX11_move_13 (by decide) (fun hcq13 => ?_) (fun hcq13 => ?_)
    · obtain ⟨hn_e, hg_e, hl_e⟩ := wiN hcq13 (by decide) (by decide)
      refine e_aload_n dX11_move_22 rfl ?_
      refine e_get dX11_move_23 fl_X11_35_11 hC.1 rfl ?_
      refine e_iload_n dX11_move_26 rfl ?_
      refine e_top (nI (tn g)) (hn_g) ?_
      obtain ⟨T66, hT66, eT66⟩ := hC.ch
      obtain ⟨fG, hRG, heG⟩ := hC.cr (tn g) (by omega)
      have hRG0 := hRG
      rw [(hI.2.2 (tn g) (by omega)).1] at hRG
      have hzG := (hI.2.2 (tn g) (by omega)).2
      refine e_ald (v := some (74 + 2 * tn g)) (tn g) dX11_move_27 hT66 (Or.inr (Or.inr (Or.inl rfl))) rfl (by omega) (by decide) (eT66 _ (by omega)) ?_
      refine e_astore dX11_move_28 (by decide) ?_
      refine e_aload_n dX11_move_30 rfl ?_
      refine e_get dX11_move_31 fl_X11_35_11 hC.1 rfl ?_
      refine e_iload_n dX11_move_34 rfl ?_
      refine e_top (nI (tn e)) (hn_e) ?_
      obtain ⟨T66, hT66, eT66⟩ := hC.ch
      obtain ⟨fE, hRE, heE⟩ := hC.cr (tn e) (by omega)
      have hRE0 := hRE
      rw [(hI.2.2 (tn e) (by omega)).1] at hRE
      have hzE := (hI.2.2 (tn e) (by omega)).2
      refine e_ald (v := some (74 + 2 * tn e)) (tn e) dX11_move_35 hT66 (Or.inr (Or.inr (Or.inl rfl))) rfl (by omega) (by decide) (eT66 _ (by omega)) ?_
      refine e_astore dX11_move_36 (by decide) ?_
      refine e_aload dX11_move_38 rfl ?_
      refine e_get dX11_move_40 fl_X11_90_5 hRG.1 rfl ?_
      refine e_if_eq 54 dX11_move_43 (by decide) (fun hcq43 => ?_) (fun hcq43 => ?_)
      · refine e_aload_n dX11_move_54 rfl ?_
        refine e_iconst (nI (2)) dX11_move_55 (by decide) ?_
        refine c_V1i (nc := 0) (ns := 0) (mc := 0) (ms := 0) (N := mX11_error) dX11_move_56 lv_X11_54 mo_X11_error hC.cn (Nat.le_of_ble_eq_true rfl) (Nat.le_of_ble_eq_true rfl) (by decide) (c_error D hC 2 (by decide)) (fun h hP => ?_)
        obtain ⟨hC, hF1⟩ := hP
        have hF := hF.trans hF1
        have e9 : f_move s g i e j n = er 2 (s) := by rw [f_move, if_pos hcq5, if_pos hcq13, if_pos hcq43]
        rw [e9] at hp
        exact e_iret dX11_move_59 rfl (hp _ ⟨hC, hF⟩)
      · refine e_aload dX11_move_46 rfl ?_
        refine e_get dX11_move_48 fl_X11_90_5 hRE.1 rfl ?_
        refine e_if_ne 60 dX11_move_51 (by decide) (fun hcq51 => ?_) (fun hcq51 => ?_)
        · refine e_aload dX11_move_60 rfl ?_
          refine e_get dX11_move_62 fl_X11_90_5 hRG.1 rfl ?_
          refine e_aload dX11_move_65 rfl ?_
          refine e_get dX11_move_67 fl_X11_90_5 hRE.1 rfl ?_
          refine e_icmp_eq 79 dX11_move_70 (by decide) (fun hcq70 => ?_) (fun hcq70 => ?_)
          · refine e_aload dX11_move_79 rfl ?_
            refine e_iload_n dX11_move_81 rfl ?_
            refine e_iload dX11_move_82 rfl ?_
            refine c_V2iR (N := mX5_hasRun) dX11_move_84 lv_X11_313 mo_X5_hasRun hRG.cn (Nat.le_of_ble_eq_true rfl) (Nat.le_of_ble_eq_true rfl) (by decide) (k_rrun D hRG (by omega) (i) (n)) ?_
            refine e_if_eqB 102 dX11_move_87 (by decide) (fun hcq87 => ?_) (fun hcq87 => ?_)
            · refine e_aload_n dX11_move_102 rfl ?_
              refine e_iconst (nI (1)) dX11_move_103 (by decide) ?_
              refine c_V1i (nc := 0) (ns := 0) (mc := 0) (ms := 0) (N := mX11_error) dX11_move_104 lv_X11_54 mo_X11_error hC.cn (Nat.le_of_ble_eq_true rfl) (Nat.le_of_ble_eq_true rfl) (by decide) (c_error D hC 1 (by decide)) (fun h hP => ?_)
              obtain ⟨hC, hF1⟩ := hP
              have hF := hF.trans hF1
              have e9 : f_move s g i e j n = er 1 (s) := by rw [f_move, if_pos hcq5, if_pos hcq13, if_neg hcq43, if_neg hcq51, if_pos hcq70]; by_cases a1 : n < 0; (rw [if_pos a1]); by_cases a2 : i < 0; (rw [if_neg a1, if_pos a2]); by_cases a3 : j < 0; (rw [if_neg a1, if_neg a2, if_pos a3]); rw [if_neg a1, if_neg a2, if_neg a3, if_neg (fun q => hcq87 ⟨a2, a1, q⟩)]
              rw [e9] at hp
              exact e_iret dX11_move_107 rfl (hp _ ⟨hC, hF⟩)
            · refine e_aload dX11_move_90 rfl ?_
              refine e_iload dX11_move_92 rfl ?_
              refine e_iload dX11_move_94 rfl ?_
              refine c_V2iR (N := mX5_hasRun) dX11_move_96 lv_X11_313 mo_X5_hasRun hRE.cn (Nat.le_of_ble_eq_true rfl) (Nat.le_of_ble_eq_true rfl) (by decide) (k_rrun D hRE (by omega) (j) (n)) ?_
              refine e_if_neB 108 dX11_move_99 (by decide) (fun hcq99 => ?_) (fun hcq99 => ?_)
              · refine e_aload dX11_move_108 rfl ?_
                refine e_get dX11_move_110 fl_X11_96_5 hRG.1 rfl ?_
                refine e_iload_n dX11_move_113 rfl ?_
                refine e_aload dX11_move_114 rfl ?_
                refine e_get dX11_move_116 fl_X11_96_5 hRE.1 rfl ?_
                refine e_iload dX11_move_119 rfl ?_
                refine e_iload dX11_move_121 rfl ?_
                refine e_copyi dX11_move_123 cy_X11_316 (by decide) (Nat.le_of_ble_eq_true rfl) hRG.2 hRE.2 hcq87.1 hcq99.1 hcq87.2.1 (by have := hcq87.2.2; show tn i + tn n ≤ 40; omega) (by have := hcq99.2.2; show tn j + tn n ≤ 40; omega) ?_
                have hF := hF.set (c := .inl (0, 40, .inl (va_cpy fG fE (tn i) (tn j) (tn n)))) (show 11 ≤ 74 + 2 * tn e + 1 by omega) (show 74 + 2 * tn e + 1 < 82 by omega)
                have hC := hC.move (g := tn g) (e := tn e) (i := tn i) (j := tn j) (n := tn n) (by omega) (by omega) (by have := hcq87.2.2; omega) (by have := hcq99.2.2; omega) heG hRE0 heE
                refine e_iload dX11_move_126 rfl ?_
                have e9 : f_move s g i e j n = ((n), wH s (sW s) (sZ s) (mvB (sQ s) (40 * tn g + tn i) (40 * tn e + tn j) (tn n))) := by rw [f_move, if_pos hcq5, if_pos hcq13, if_neg hcq43, if_neg hcq51, if_pos hcq70, if_neg hcq87.2.1, if_neg hcq87.1, if_neg hcq99.1, if_pos hcq87.2.2, if_pos hcq99.2.2]
                rw [e9] at hp
                exact e_iret dX11_move_128 rfl (hp _ ⟨hC, hF⟩)
              · refine e_aload_n dX11_move_102 rfl ?_
                refine e_iconst (nI (1)) dX11_move_103 (by decide) ?_
                refine c_V1i (nc := 0) (ns := 0) (mc := 0) (ms := 0) (N := mX11_error) dX11_move_104 lv_X11_54 mo_X11_error hC.cn (Nat.le_of_ble_eq_true rfl) (Nat.le_of_ble_eq_true rfl) (by decide) (c_error D hC 1 (by decide)) (fun h hP => ?_)
                obtain ⟨hC, hF1⟩ := hP
                have hF := hF.trans hF1
                have e9 : f_move s g i e j n = er 1 (s) := by rw [f_move, if_pos hcq5, if_pos hcq13, if_neg hcq43, if_neg hcq51, if_pos hcq70]; rw [if_neg hcq87.2.1, if_neg hcq87.1]; by_cases a3 : j < 0; (rw [if_pos a3]); rw [if_neg a3, if_pos hcq87.2.2, if_neg (fun q => hcq99 ⟨a3, hcq87.2.1, q⟩)]
                rw [e9] at hp
                exact e_iret dX11_move_107 rfl (hp _ ⟨hC, hF⟩)
          · refine e_aload_n dX11_move_73 rfl ?_
            refine e_iconst (nI (5)) dX11_move_74 (by decide) ?_
            refine c_V1i (nc := 0) (ns := 0) (mc := 0) (ms := 0) (N := mX11_error) dX11_move_75 lv_X11_54 mo_X11_error hC.cn (Nat.le_of_ble_eq_true rfl) (Nat.le_of_ble_eq_true rfl) (by decide) (c_error D hC 5 (by decide)) (fun h hP => ?_)
            obtain ⟨hC, hF1⟩ := hP
            have hF := hF.trans hF1
            have e9 : f_move s g i e j n = er 5 (s) := by rw [f_move, if_pos hcq5, if_pos hcq13, if_neg hcq43, if_neg hcq51, if_neg hcq70]
            rw [e9] at hp
            exact e_iret dX11_move_78 rfl (hp _ ⟨hC, hF⟩)
        · refine e_aload_n dX11_move_54 rfl ?_
          refine e_iconst (nI (2)) dX11_move_55 (by decide) ?_
          refine c_V1i (nc := 0) (ns := 0) (mc := 0) (ms := 0) (N := mX11_error) dX11_move_56 lv_X11_54 mo_X11_error hC.cn (Nat.le_of_ble_eq_true rfl) (Nat.le_of_ble_eq_true rfl) (by decide) (c_error D hC 2 (by decide)) (fun h hP => ?_)
          obtain ⟨hC, hF1⟩ := hP
          have hF := hF.trans hF1
          have e9 : f_move s g i e j n = er 2 (s) := by rw [f_move, if_pos hcq5, if_pos hcq13, if_neg hcq43, if_pos hcq51]
          rw [e9] at hp
          exact e_iret dX11_move_59 rfl (hp _ ⟨hC, hF⟩)
    · refine e_aload_n dX11_move_16 rfl ?_
      refine e_iconst (nI (1)) dX11_move_17 (by decide) ?_
      refine c_V1i (nc := 0) (ns := 0) (mc := 0) (ms := 0) (N := mX11_error) dX11_move_18 lv_X11_54 mo_X11_error hC.cn (Nat.le_of_ble_eq_true rfl) (Nat.le_of_ble_eq_true rfl) (by decide) (c_error D hC 1 (by decide)) (fun h hP => ?_)
      obtain ⟨hC, hF1⟩ := hP
      have hF := hF.trans hF1
      have e9 : f_move s g i e j n = er 1 (s) := by rw [f_move, if_pos hcq5, if_neg hcq13]
      rw [e9] at hp
      exact e_iret dX11_move_21 rfl (hp _ ⟨hC, hF⟩)
set_option maxRecDepth 20000 in
theorem cl_villages (D : En) {s : SS} (hI : INV s) {h00 : AH} {post : Option Value → AH → Prop} (g : Int32) (hg4 : tn g < 4) (hp : ∀ h', (ClsS h' ((nI (viS s (tn g)).1, wN s (viS s (tn g)).2)).2 ∧ FrC h00 h') → post (some (.int ((nI (viS s (tn g)).1, wN s (viS s (tn g)).2)).1)) h') : ∀ (j : Nat) (k : Nat) (M : Nat → Int32) (h : AH), (k + j = 11) → (IN M) → (ClsS h (wN s M)) → (FrC h00 h) → (viW (sQ s) (40 * tn g) (tn (sZ s (tn g))) j k (nvN M) M = viS s (tn g)) → Ev D 6 mX11_villages 39 [some (.ref (11)), some (.int (g)), some (.ref (74 + 2 * tn g)), some (.int (nI (k))), some (.int (nI (4 * k))), none] [] h 0 0 post := by
  have hY := hI.1.1
  have hnv := hY.2.1
  have htc10 := hY.2.2.2.1
  intro j
  induction j with
  | zero =>
    intro k M h hm hIM hC hF hv
    have hnvM := hIM.1.2.1
    obtain ⟨fG, hRG, heG⟩ := hC.cr (tn g) (by omega)
    have hRG0 := hRG
    rw [show sZ (wN s M) (tn g) = nI (tn (sZ s (tn g))) from (hI.2.2 (tn g) (by omega)).1] at hRG
    have hzG := (hI.2.2 (tn g) (by omega)).2
    have heG : ∀ i, i < 40 → fG i = sQ s (40 * tn g + i) := heG
    refine e_iload dX11_villages_39 rfl ?_
    refine e_iconst (nI (3)) dX11_villages_41 (by decide) ?_
    refine e_iaddN dX11_villages_42 ?_
    refine e_aload_n dX11_villages_43 rfl ?_
    refine e_get dX11_villages_44 fl_X11_93_5 hRG.1 rfl ?_
    refine e_icmp_geN 152 dX11_villages_47 (by decide) (by omega) (by omega) (fun hcq47 => ?_) (fun hcq47 => absurd hcq47 (by omega))
    refine e_iload_n dX11_villages_152 rfl ?_
    have e8 : viS s (tn g) = (k, M) := by rw [← hv, viW]
    rw [e8] at hp
    exact e_iret dX11_villages_153 rfl (hp _ ⟨hC, hF⟩)
  | succ j ih =>
    intro k M h hm hIM hC hF hv
    have hnvM := hIM.1.2.1
    obtain ⟨fG, hRG, heG⟩ := hC.cr (tn g) (by omega)
    have hRG0 := hRG
    rw [show sZ (wN s M) (tn g) = nI (tn (sZ s (tn g))) from (hI.2.2 (tn g) (by omega)).1] at hRG
    have hzG := (hI.2.2 (tn g) (by omega)).2
    have heG : ∀ i, i < 40 → fG i = sQ s (40 * tn g + i) := heG
    refine e_iload dX11_villages_39 rfl ?_
    refine e_iconst (nI (3)) dX11_villages_41 (by decide) ?_
    refine e_iaddN dX11_villages_42 ?_
    refine e_aload_n dX11_villages_43 rfl ?_
    refine e_get dX11_villages_44 fl_X11_93_5 hRG.1 rfl ?_
    refine e_icmp_geN 152 dX11_villages_47 (by decide) (by omega) (by omega) (fun hcq47 => ?_) (fun hcq47 => ?_)
    · refine e_iload_n dX11_villages_152 rfl ?_
      have e8 : viS s (tn g) = (k, M) := by rw [← hv, viW, if_neg (by omega)]
      rw [e8] at hp
      exact e_iret dX11_villages_153 rfl (hp _ ⟨hC, hF⟩)
    · refine e_aload_n dX11_villages_50 rfl ?_
      refine e_get dX11_villages_51 fl_X11_10_11 hC.1 rfl ?_
      refine e_get dX11_villages_54 fl_X11_58_2 hC.2.1.1 rfl ?_
      refine e_get dX11_villages_57 fl_X11_61_4 hC.2.1.2.1.1 rfl ?_
      refine e_top (nI (nvN M)) hIM.1.1 ?_
      refine e_bipush (nI (8)) dX11_villages_60 (by decide) ?_
      refine e_icmp_geN 152 dX11_villages_62 (by decide) (by omega) (by omega) (fun hcq62 => ?_) (fun hcq62 => ?_)
      · refine e_iload_n dX11_villages_152 rfl ?_
        have e8 : viS s (tn g) = (k, M) := by rw [← hv, viW, if_pos (by omega), if_neg (by omega)]
        rw [e8] at hp
        exact e_iret dX11_villages_153 rfl (hp _ ⟨hC, hF⟩)
      · refine e_aload_n dX11_villages_65 rfl ?_
        refine e_get dX11_villages_66 fl_X11_96_5 hRG.1 rfl ?_
        refine e_astore dX11_villages_69 (by decide) ?_
        refine e_aload dX11_villages_71 rfl ?_
        refine e_iload dX11_villages_73 rfl ?_
        refine e_ild (4 * k) ((sQ s (40 * tn g + 4 * k))) dX11_villages_75 hRG.2 rfl (by omega) (by decide) (heG _ (by omega)) ?_
        refine e_aload dX11_villages_76 rfl ?_
        refine e_iload dX11_villages_78 rfl ?_
        refine e_iconst (nI (1)) dX11_villages_80 (by decide) ?_
        refine e_iaddN dX11_villages_81 ?_
        refine e_ild ((4 * k) + 1) ((sQ s (40 * tn g + 4 * k + 1))) dX11_villages_82 hRG.2 rfl (by omega) (by decide) (heG _ (by omega)) ?_
        refine e_aload dX11_villages_83 rfl ?_
        refine e_iload dX11_villages_85 rfl ?_
        refine e_iconst (nI (2)) dX11_villages_87 (by decide) ?_
        refine e_iaddN dX11_villages_88 ?_
        refine e_ild ((4 * k) + 2) ((sQ s (40 * tn g + 4 * k + 2))) dX11_villages_89 hRG.2 rfl (by omega) (by decide) (heG _ (by omega)) ?_
        refine e_aload dX11_villages_90 rfl ?_
        refine e_iload dX11_villages_92 rfl ?_
        refine e_iconst (nI (3)) dX11_villages_94 (by decide) ?_
        refine e_iaddN dX11_villages_95 ?_
        refine e_ild ((4 * k) + 3) ((sQ s (40 * tn g + 4 * k + 3))) dX11_villages_96 hRG.2 rfl (by omega) (by decide) (heG _ (by omega)) ?_
        refine c_S4iR (N := mX11_isVillageAsTold) dX11_villages_97 ls_X11_50 mo_X11_isVillageAsTold  (Nat.le_of_ble_eq_true rfl) (Nat.le_of_ble_eq_true rfl) (by decide) (c_told D ((sQ s (40 * tn g + 4 * k))) ((sQ s (40 * tn g + 4 * k + 1))) ((sQ s (40 * tn g + 4 * k + 2))) ((sQ s (40 * tn g + 4 * k + 3)))) ?_
        refine e_if_neB 106 dX11_villages_100 (by decide) (fun hcq100 => ?_) (fun hcq100 => ?_)
        · refine e_aload_n dX11_villages_106 rfl ?_
          refine e_get dX11_villages_107 fl_X11_10_11 hC.1 rfl ?_
          refine e_get dX11_villages_110 fl_X11_58_2 hC.2.1.1 rfl ?_
          refine e_aload dX11_villages_113 rfl ?_
          refine e_iload dX11_villages_115 rfl ?_
          refine e_ild (4 * k) ((sQ s (40 * tn g + 4 * k))) dX11_villages_117 hRG.2 rfl (by omega) (by decide) (heG _ (by omega)) ?_
          refine e_aload dX11_villages_118 rfl ?_
          refine e_iload dX11_villages_120 rfl ?_
          refine e_iconst (nI (1)) dX11_villages_122 (by decide) ?_
          refine e_iaddN dX11_villages_123 ?_
          refine e_ild ((4 * k) + 1) ((sQ s (40 * tn g + 4 * k + 1))) dX11_villages_124 hRG.2 rfl (by omega) (by decide) (heG _ (by omega)) ?_
          refine e_aload dX11_villages_125 rfl ?_
          refine e_iload dX11_villages_127 rfl ?_
          refine e_iconst (nI (2)) dX11_villages_129 (by decide) ?_
          refine e_iaddN dX11_villages_130 ?_
          refine e_ild ((4 * k) + 2) ((sQ s (40 * tn g + 4 * k + 2))) dX11_villages_131 hRG.2 rfl (by omega) (by decide) (heG _ (by omega)) ?_
          refine e_aload dX11_villages_132 rfl ?_
          refine e_iload dX11_villages_134 rfl ?_
          refine e_iconst (nI (3)) dX11_villages_136 (by decide) ?_
          refine e_iaddN dX11_villages_137 ?_
          refine e_ild ((4 * k) + 3) ((sQ s (40 * tn g + 4 * k + 3))) dX11_villages_138 hRG.2 rfl (by omega) (by decide) (heG _ (by omega)) ?_
          refine c_V4i (nc := 0) (ns := 0) (mc := 0) (ms := 0) (N := mX4_addVillage) dX11_villages_139 lv_X11_64 mo_X4_addVillage hC.L.1.cn (Nat.le_of_ble_eq_true rfl) (Nat.le_of_ble_eq_true rfl) (by decide) (k_addV (N := M) D hC.L hIM ((sQ s (40 * tn g + 4 * k))) ((sQ s (40 * tn g + 4 * k + 1))) ((sQ s (40 * tn g + 4 * k + 2))) ((sQ s (40 * tn g + 4 * k + 3))) (by omega) (IN_set hIM rfl (by omega) hcq100.2.2.1 hcq100.2.2.2.1 hcq100.2.2.2.2)) (fun h hP => ?_)
          obtain ⟨hL2, hA2, hT2⟩ := hP
          have hF := hF.trans (hA2.z.frc hC.rb (by decide) (by decide))
          have hC : ClsS h (wN s (setR M (nvN M) ((sQ s (40 * tn g + 4 * k))) ((sQ s (40 * tn g + 4 * k + 1))) ((sQ s (40 * tn g + 4 * k + 2))) ((sQ s (40 * tn g + 4 * k + 3))))) := ClsS.land (s := wN s M) (N' := setR M (nvN M) ((sQ s (40 * tn g + 4 * k))) ((sQ s (40 * tn g + 4 * k + 1))) ((sQ s (40 * tn g + 4 * k + 2))) ((sQ s (40 * tn g + 4 * k + 3)))) hC hIM hA2.z hL2 (by rw [tc_setR]; exact hC.T.same hT2) (KT.st (by omega))
          refine e_pop dX11_villages_142 rfl ?_
          refine e_iincN (k + 1) dX11_villages_143 rfl (by decide) (nI_add _ _) ?_
          refine e_iincN (4 * k + 4) dX11_villages_146 rfl (by decide) (nI_add _ _) ?_
          refine e_goto 39 dX11_villages_149 (by decide) ?_
          refine Ev.drop 5 ?_
          have hI6 := IN_set hIM rfl (show nvN M < 8 by omega) (p := sQ s (40 * tn g + 4 * k)) hcq100.2.2.1 hcq100.2.2.2.1 hcq100.2.2.2.2
          have hn6 : nvN (setR M (nvN M) (sQ s (40 * tn g + 4 * k)) (sQ s (40 * tn g + 4 * k + 1)) (sQ s (40 * tn g + 4 * k + 2)) (sQ s (40 * tn g + 4 * k + 3))) = nvN M + 1 := nvN_of pk_us (by omega)
          exact ih (k + 1) _ _ (by omega) hI6 hC hF (by rw [hn6, ← hv]; conv => rhs; rw [viW, if_pos (show 4 * k + 4 ≤ tn (sZ s (tn g)) by omega), if_pos (show nvN M < 8 by omega), if_pos hcq100])
        · refine e_goto 152 dX11_villages_103 (by decide) ?_
          refine e_iload_n dX11_villages_152 rfl ?_
          have e8 : viS s (tn g) = (k, M) := by rw [← hv, viW, if_pos (by omega), if_pos (by omega), if_neg hcq100]
          rw [e8] at hp
          exact e_iret dX11_villages_153 rfl (hp _ ⟨hC, hF⟩)
set_option maxRecDepth 20000 in
theorem cp_villages (D : En) {h : AH} {s : SS} (hI : INV s) (hC : ClsS h s) (g : Int32) : Sp D 6 mX11_villages [.ref (11), .int (g)] h 0 0 (some (.int (f_villages s g).1)) (fun h' => ClsS h' (f_villages s g).2 ∧ FrC h h') := by
  have hY := hI.1.1
  have hnv := hY.2.1
  have htc10 := hY.2.2.2.1
  obtain ⟨h00, hh00⟩ : ∃ z, z = h := ⟨_, rfl⟩
  have hF : FrC h00 h := by rw [hh00]; exact FrC.rf
  intro post hp
  rw [← hh00] at hp
  show Ev D 6 mX11_villages 0 [some (.ref (11)), some (.int (g)), none, none, none, none] [] h 0 0 post
  refine e_aload_n dX11_villages_0 rfl ?_
  refine e_iload_n dX11_villages_1 rfl ?_
  refine c_V1iR (N := mX11_isSheet) dX11_villages_2 lv_X11_87 mo_X11_isSheet hC.cn (Nat.le_of_ble_eq_true rfl) (Nat.le_of_ble_eq_true rfl) (by decide) (c_isS D hC ((g))) ?_
  refine e_if_neB 14 dX11_villages_5 (by decide) (fun hcq5 => ?_) (fun hcq5 => ?_)
  · obtain ⟨hn_g, hg_g, hl_g⟩ := wiN hcq5 (by decide) (by decide)
    refine e_aload_n dX11_villages_14 rfl ?_
    refine e_get dX11_villages_15 fl_X11_35_11 hC.1 rfl ?_
    refine e_iload_n dX11_villages_18 rfl ?_
    refine e_top (nI (tn g)) (hn_g) ?_
    obtain ⟨T66, hT66, eT66⟩ := hC.ch
    obtain ⟨fG, hRG, heG⟩ := hC.cr (tn g) (by omega)
    have hRG0 := hRG
    rw [(hI.2.2 (tn g) (by omega)).1] at hRG
    have hzG := (hI.2.2 (tn g) (by omega)).2
    refine e_ald (v := some (74 + 2 * tn g)) (tn g) dX11_villages_19 hT66 (Or.inr (Or.inr (Or.inl rfl))) rfl (by omega) (by decide) (eT66 _ (by omega)) ?_
    refine e_astore_n dX11_villages_20 (by decide) ?_
    refine e_aload_n dX11_villages_21 rfl ?_
    refine e_get dX11_villages_22 fl_X11_90_5 hRG.1 rfl ?_
    refine e_if_ne 34 dX11_villages_25 (by decide) (fun hcq25 => ?_) (fun hcq25 => ?_)
    · refine e_iconst (nI (0)) dX11_villages_34 (by decide) ?_
      refine e_istore_n dX11_villages_35 (by decide) ?_
      refine e_iconst (nI (0)) dX11_villages_36 (by decide) ?_
      refine e_istore dX11_villages_37 (by decide) ?_
      have e9 : f_villages s g = (nI (viS s (tn g)).1, wN s (viS s (tn g)).2) := by rw [f_villages, if_pos hcq5, if_neg hcq25]
      rw [e9] at hp
      exact cl_villages D hI g (by omega) hp 11 0 (sN s) _ (by omega) hI.1 hC hF rfl
    · refine e_aload_n dX11_villages_28 rfl ?_
      refine e_iconst (nI (2)) dX11_villages_29 (by decide) ?_
      refine c_V1i (nc := 0) (ns := 0) (mc := 0) (ms := 0) (N := mX11_error) dX11_villages_30 lv_X11_54 mo_X11_error hC.cn (Nat.le_of_ble_eq_true rfl) (Nat.le_of_ble_eq_true rfl) (by decide) (c_error D hC 2 (by decide)) (fun h hP => ?_)
      obtain ⟨hC, hF1⟩ := hP
      have hF := hF.trans hF1
      have e9 : f_villages s g = er 2 (s) := by rw [f_villages, if_pos hcq5, if_pos hcq25]
      rw [e9] at hp
      exact e_iret dX11_villages_33 rfl (hp _ ⟨hC, hF⟩)
  · refine e_aload_n dX11_villages_8 rfl ?_
    refine e_iconst (nI (1)) dX11_villages_9 (by decide) ?_
    refine c_V1i (nc := 0) (ns := 0) (mc := 0) (ms := 0) (N := mX11_error) dX11_villages_10 lv_X11_54 mo_X11_error hC.cn (Nat.le_of_ble_eq_true rfl) (Nat.le_of_ble_eq_true rfl) (by decide) (c_error D hC 1 (by decide)) (fun h hP => ?_)
    obtain ⟨hC, hF1⟩ := hP
    have hF := hF.trans hF1
    have e9 : f_villages s g = er 1 (s) := by rw [f_villages, if_neg hcq5]
    rw [e9] at hp
    exact e_iret dX11_villages_13 rfl (hp _ ⟨hC, hF⟩)
