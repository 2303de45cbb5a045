theorem all_n {N : Nat → Int32} (hP : PW N) {v : Nat} (hv : v < 8) : ∃ p, allR N v = nI p ∧ p ≤ 299997 := by
  obtain ⟨a, ha, ha2⟩ := rg_toI (hP.1 v hv 0 (by decide)) (by decide)
  obtain ⟨b, hb, hb2⟩ := rg_toI (hP.1 v hv 1 (by decide)) (by decide)
  obtain ⟨c, hc, hc2⟩ := rg_toI (hP.1 v hv 2 (by decide)) (by decide)
  refine ⟨a + b + c, ?_, by omega⟩
  unfold allR
  rw [ha, hb, hc, nI_add, nI_add]
theorem come_eq {N : Nat → Int32} (hP : PW N) {v : Nat} (hv : v < 8) {s : Int32} (hs : rg s 20) : minI (nI 99999) (N (16 + 4 * v + 1 + 1) + allR N v * s / nI 100) = chg (N (16 + 4 * v + 1 + 1)) (allR N v * s / nI 100).toInt64 := by
  obtain ⟨p, hp, hp2⟩ := all_n hP hv
  obtain ⟨q, hq, hq2⟩ := rg_toI hs (by decide)
  obtain ⟨g, hg, hg2⟩ := rg_toI (hP.1 v hv 1 (by decide)) (by decide)
  obtain ⟨e1, e2⟩ := pct hp hq (by omega) (by omega)
  rw [e1, hg]
  exact (chg_of (p := (g : Int)) (d := ((p * q / 100 : Nat) : Int)) (nI_toInt (by omega)) (nI_toInt (by omega)) (by omega) (by omega) (by omega) (by omega)).symm
theorem LB.pe {h : AH} {a : Nat} {N : Nat → Int32} (hL : LB h a N) (hI : IN N) {f : Nat → Int32} (hf : Row0 h (a + 2) 24 f) {v w : Nat} (hv : v < 8) (hw : w < 3) (x : Int32) : LB (h.set (a + 2) (.inl (0, 24, .inl (upd f (3 * v + w) x)))) a (upd N (16 + 4 * v + 1 + w) x) := hL.set (by have := hL.2.2; omega) (fun fs e => by cases e) (hL.1.pe hI hL.2.2 hf hv hw x)
theorem IN_pe {N : Nat → Int32} (h : IN N) {v w : Nat} {x : Int32} (hv : v < 8) (hw : w < 3) (hx : rg x 99999) : IN (upd N (16 + 4 * v + 1 + w) x) := IN_up h (FI_pe hv hw) (by omega) (PW_pe h.2.2.2.1 hv hw hx)
set_option maxRecDepth 20000 in
theorem kl_come (D : En) {a : Nat} {post : Option Value → AH → Prop} {N0 N1 : Nat → Int32} {h0 : AH} {C C9 : Nat → Int32} (hCe : ∀ w, w < nvN N0 → C9 w = C w) (hp : ∀ h', LB h' a (coW (txN N0 2) C N1 (nvN N0)) → IN (coW (txN N0 2) C N1 (nvN N0)) → FY a h0 h' → JW (coW (txN N0 2) C N1 (nvN N0)) N0 → post none h') : ∀ (j : Nat) (v : Nat) (h : AH) (N : Nat → Int32), (v + j = nvN N0) → (LB h a N) → (IN N) → (FY a h0 h) → (JW N N0) → (N = coW (txN N0 2) C N1 v) → (Row0 h (a + 10) 8 C9) → Ev D 3 mX4_letCome 2 [some (.ref (a)), some (.int (nI (v))), none, none] [] h 0 0 post := by
  intro j
  induction j with
  | zero =>
    intro v h N hm hL hI hF hJ hN hCr
    obtain ⟨hLo, ⟨f1, hr1, he1⟩, ⟨f2, hr2, he2⟩, ⟨f3, hr3, he3⟩, ⟨T4, hr4, he4⟩, ⟨f5, hr5, he5⟩, ⟨f6, hr6, he6⟩, ⟨f7, hr7, he7⟩, ⟨R8, hr8, he8⟩, ⟨f9, hr9⟩, ⟨f10, hr10⟩, ⟨fG, hrG, heG⟩⟩ := id hL.1
    have hY := hI.1
    have hnv := hY.2.1
    have htc10 := hY.2.2.2.1
    have hnvE := hJ.nv
    have ha97 := hL.2.2
    refine e_iload_n dX4_letCome_2 rfl ?_
    refine e_aload_n dX4_letCome_3 rfl ?_
    refine e_get dX4_letCome_4 fl_X4_18_4 hLo rfl ?_
    refine e_top (nI (nvN N)) hY.1 ?_
    refine e_icmp_geN 64 dX4_letCome_7 (by decide) (by omega) (by omega) (fun hcq7 => ?_) (fun hcq7 => absurd hcq7 (by omega))
    rw [show v = nvN N0 by omega] at hN
    exact e_vret dX4_letCome_64 rfl (hp h (by rw [← hN]; exact hL) (by rw [← hN]; exact hI) hF (by rw [← hN]; exact hJ))
  | succ j ih =>
    intro v h N hm hL hI hF hJ hN hCr
    obtain ⟨hLo, ⟨f1, hr1, he1⟩, ⟨f2, hr2, he2⟩, ⟨f3, hr3, he3⟩, ⟨T4, hr4, he4⟩, ⟨f5, hr5, he5⟩, ⟨f6, hr6, he6⟩, ⟨f7, hr7, he7⟩, ⟨R8, hr8, he8⟩, ⟨f9, hr9⟩, ⟨f10, hr10⟩, ⟨fG, hrG, heG⟩⟩ := id hL.1
    have hY := hI.1
    have hnv := hY.2.1
    have htc10 := hY.2.2.2.1
    have hnvE := hJ.nv
    have ha97 := hL.2.2
    refine e_iload_n dX4_letCome_2 rfl ?_
    refine e_aload_n dX4_letCome_3 rfl ?_
    refine e_get dX4_letCome_4 fl_X4_18_4 hLo rfl ?_
    refine e_top (nI (nvN N)) hY.1 ?_
    refine e_icmp_geN 64 dX4_letCome_7 (by decide) (by omega) (by omega) (fun hcq7 => absurd hcq7 (by omega)) (fun hcq7 => ?_)
    refine e_aload_n dX4_letCome_10 rfl ?_
    refine e_iload_n dX4_letCome_11 rfl ?_
    refine c_V1iR (N := mX4_allOf) dX4_letCome_12 lv_X4_115 mo_X4_allOf hL.1.cn (Nat.le_of_ble_eq_true rfl) (Nat.le_of_ble_eq_true rfl) (by decide) (k_allOf D hL.1 hI (v) (by omega)) ?_
    refine e_istore_n dX4_letCome_15 (by decide) ?_
    refine e_iload_n dX4_letCome_16 rfl ?_
    refine e_aload_n dX4_letCome_17 rfl ?_
    refine e_aload_n dX4_letCome_18 rfl ?_
    refine e_get dX4_letCome_19 fl_X4_69_4 hLo rfl ?_
    refine e_iload_n dX4_letCome_22 rfl ?_
    refine e_ild (v) ((C v)) dX4_letCome_23 hCr rfl (by omega) (by decide) (hCe _ (by omega)) ?_
    refine e_iload_n dX4_letCome_24 rfl ?_
    refine c_V2i (nc := 0) (ns := 0) (mc := 0) (ms := 0) (N := mX4_shareToCome) dX4_letCome_25 lv_X4_185 mo_X4_shareToCome hL.1.cn (Nat.le_of_ble_eq_true rfl) (Nat.le_of_ble_eq_true rfl) (by decide) (k_shareToCome D hL.1 hI ((C v)) ((allR N v))) (fun h hP => ?_)
    have hC9 := hP.lo hL.2.1 (x := a + 10) (by have := hL.2.2; omega)
    have hF := hF.pr hL.2.1 hL.2.2 hP
    have hL := hL.pr_ hP
    have hCr : Row0 h (a + 10) 8 C9 := hC9.trans hCr
    obtain ⟨hLo, ⟨f1, hr1, he1⟩, ⟨f2, hr2, he2⟩, ⟨f3, hr3, he3⟩, ⟨T4, hr4, he4⟩, ⟨f5, hr5, he5⟩, ⟨f6, hr6, he6⟩, ⟨f7, hr7, he7⟩, ⟨R8, hr8, he8⟩, ⟨f9, hr9⟩, ⟨f10, hr10⟩, ⟨fG, hrG, heG⟩⟩ := id hL.1
    have hY := hI.1
    have hnv := hY.2.1
    have htc10 := hY.2.2.2.1
    refine e_imul dX4_letCome_28 ?_
    refine e_bipush (nI (100)) dX4_letCome_29 (by decide) ?_
    refine e_idiv dX4_letCome_31 (by decide) ?_
    refine e_istore_n dX4_letCome_32 (by decide) ?_
    refine e_aload_n dX4_letCome_33 rfl ?_
    refine e_get dX4_letCome_34 fl_X4_31_4 hLo rfl ?_
    refine e_iconst (nI (3)) dX4_letCome_37 (by decide) ?_
    refine e_iload_n dX4_letCome_38 rfl ?_
    refine e_imulN dX4_letCome_39 ?_
    refine e_iconst (nI (1)) dX4_letCome_40 (by decide) ?_
    refine e_iaddN dX4_letCome_41 ?_
    refine e_aload_n dX4_letCome_42 rfl ?_
    refine e_get dX4_letCome_43 fl_X4_31_4 hLo rfl ?_
    refine e_iconst (nI (3)) dX4_letCome_46 (by decide) ?_
    refine e_iload_n dX4_letCome_47 rfl ?_
    refine e_imulN dX4_letCome_48 ?_
    refine e_iconst (nI (1)) dX4_letCome_49 (by decide) ?_
    refine e_iaddN dX4_letCome_50 ?_
    refine e_ild ((3 * v) + 1) ((N (16 + 4 * v + 1 + 1))) dX4_letCome_51 hr2 rfl (by omega) (by decide) (he2 _ (by omega) _ (by omega)) ?_
    refine e_iload_n dX4_letCome_52 rfl ?_
    refine e_iadd dX4_letCome_53 ?_
    refine c_S1iR (N := mX4_held) dX4_letCome_54 ls_X4_182 mo_X4_held  (Nat.le_of_ble_eq_true rfl) (Nat.le_of_ble_eq_true rfl) (by decide) (k_held D (((N (16 + 4 * v + 1 + 1)) + (((allR N v) * (givenR (txN N 2) 2 ((C v)) ((allR N v)) (nI 0) (nI 0))) / nI (100))))) ?_
    refine e_ist ((3 * v) + 1) dX4_letCome_57 hr2 rfl (by omega) (by decide) ?_
    refine e_iincN (v + 1) dX4_letCome_58 rfl (by decide) (nI_add _ _) ?_
    refine e_goto 2 dX4_letCome_61 (by decide) ?_
    refine Ev.drop 2 (Ev.drop 3 ?_)
    have e9 := come_eq hI.2.2.2.1 (v := v) (by omega) (rg_gv2 (txN N 2) (C v) (allR N v) (nI 0) (nI 0))
    exact ih (v + 1) _ _ (by omega) (hL.pe hI hr2 (by omega) (by decide) _) (IN_pe hI (by omega) (by decide) (by rw [e9]; exact rg_chg _ _)) (hF.set _ (by omega)) (hJ.pe (by omega) (by decide) (by rw [e9]; exact rg_chg _ _)) (by rw [coW, ← hN, ← hJ.tx, e9]) (getset hCr (by omega))
