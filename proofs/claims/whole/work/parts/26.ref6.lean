def goS (tx : List Nat) (cv al : Int32) (v hv s : Nat) (M : (Nat → Int32) × (Nat → Int32)) : (Nat → Int32) × (Nat → Int32) := (upd M.1 (16 + 4 * v + 1 + s) (chg (M.1 (16 + 4 * v + 1 + s)) (-(M.1 (16 + 4 * v + 1 + s) * givenR tx 1 (nI s) cv al (nI 0) / nI 100)).toInt64), upd M.2 s (M.2 s + (if v = hv then nI 0 else M.1 (16 + 4 * v + 1 + s) * givenR tx 1 (nI s) cv al (nI 0) / nI 100 / nI 2)))
def goV (tx : List Nat) (C : Nat → Int32) (hv : Nat) (N : Nat → Int32) : Nat → (Nat → Int32) × (Nat → Int32)
  | 0 => (N, fun _ => nI 0)
  | v + 1 => goS tx (C v) (allR (goV tx C hv N v).1 v) v hv 2 (goS tx (C v) (allR (goV tx C hv N v).1 v) v hv 1 (goS tx (C v) (allR (goV tx C hv N v).1 v) v hv 0 (goV tx C hv N v)))
def goF (M : (Nat → Int32) × (Nat → Int32)) (hv s : Nat) (R : Nat → Int32) : Nat → Int32 := upd R (16 + 4 * hv + 1 + s) (chg (R (16 + 4 * hv + 1 + s)) (M.2 s).toInt64)
def goR (tx : List Nat) (C : Nat → Int32) (N : Nat → Int32) (nv : Nat) : Nat → Int32 := if nv = 0 then N else goF (goV tx C (havW C nv) N nv) (havW C nv) 2 (goF (goV tx C (havW C nv) N nv) (havW C nv) 1 (goF (goV tx C (havW C nv) N nv) (havW C nv) 0 (goV tx C (havW C nv) N nv).1))
theorem havW_congr {c e : Nat → Int32} {n : Nat} (h : ∀ i, i < n → c i = e i) : havW c n = havW e n := by
  induction n with
  | zero => rfl
  | succ n ih =>
    have h1 := ih (fun i hi => h i (by omega))
    rw [havW, havW, h1]
    by_cases z : n = 0
    · rw [if_pos z, if_pos z]
    · have h2 := havW_lt e n (by omega)
      rw [if_neg z, if_neg z, h _ (show havW e n < n + 1 by omega), h n (by omega)]
theorem FI_pe {v s : Nat} (hv : v < 8) (hs : s < 3) : FI (16 + 4 * v + 1 + s) := by unfold FI; omega
set_option maxRecDepth 20000 in
theorem l_goes (D : En) {N0 : Nat → Int32} {σ0 : Nat → Nat → Int32} {τ : Nat → Int32} {nv tc : Nat} {tx : Nat → List Nat} (C : Nat → Int32) (hv : Nat) (hhv : hv < 8) {h0 : AH} {post : Option Value → AH → Prop} (kk : ∀ h σ, RefAt h (goV (tx 1) C hv N0 nv).1 σ τ → (∀ i, i ≠ 8 → i ≠ 11 → σ i = σ0 i) → (∀ w, w < 3 → σ 11 w = (goV (tx 1) C hv N0 nv).2 w) → FrR h0 h → YW (goV (tx 1) C hv N0 nv).1 nv tc tx → Ev D 6 mX12_goes 126 [some (.ref 82), some (.int (nI hv)), some (.int (nI nv)), none, none, none] [] h 0 0 post) : ∀ (n : Nat) (v : Nat) (h : AH) (M : (Nat → Int32) × (Nat → Int32)) (σ : Nat → Nat → Int32), (v + n = nv) → (RefAt h M.1 σ τ) → (FrR h0 h) → (YW M.1 nv tc tx) → (M = goV (tx 1) C hv N0 v) → (∀ i, i ≠ 8 → i ≠ 11 → σ i = σ0 i) → (∀ w, w < nv → σ 5 w = C w) → (∀ w, w < 3 → σ 11 w = M.2 w) → Ev D 6 mX12_goes 27 [some (.ref (82)), some (.int (nI (hv))), some (.int (nI (v))), none, none, none] [] h 0 0 post := by
  intro n
  induction n with
  | zero =>
    intro v h M σ hm hR hF hY hM hE hC h11
    have hnv := hY.2.1
    obtain rfl : nv = v := by omega
    refine e_iload_n dX12_goes_27 rfl ?_
    refine e_aload_n dX12_goes_28 rfl ?_
    refine e_get dX12_goes_29 fl_X12_9_12 hR.1 rfl ?_
    refine e_iconst (nI (1)) dX12_goes_32 (by decide) ?_
    refine e_ild (1) (nI (nv)) dX12_goes_33 hR.2.1 rfl (by omega) (by decide) hY.1 ?_
    refine e_icmp_geN 126 dX12_goes_34 (by decide) (by omega) (by omega) (fun hcq34 => ?_) (fun hcq34 => absurd hcq34 (by omega))
    exact kk h σ (by rw [← hM]; exact hR) hE (by rw [← hM]; exact h11) hF (by rw [← hM]; exact hY)
  | succ n ih =>
    intro v h M σ hm hR hF hY hM hE hC h11
    have hnv := hY.2.1
    refine e_iload_n dX12_goes_27 rfl ?_
    refine e_aload_n dX12_goes_28 rfl ?_
    refine e_get dX12_goes_29 fl_X12_9_12 hR.1 rfl ?_
    refine e_iconst (nI (1)) dX12_goes_32 (by decide) ?_
    refine e_ild (1) (nI (nv)) dX12_goes_33 hR.2.1 rfl (by omega) (by decide) hY.1 ?_
    refine e_icmp_geN 126 dX12_goes_34 (by decide) (by omega) (by omega) (fun hcq34 => absurd hcq34 (by omega)) (fun hcq34 => ?_)
    refine e_aload_n dX12_goes_37 rfl ?_
    refine e_iload_n dX12_goes_38 rfl ?_
    refine c_V1iR (N := mX12_allOf) dX12_goes_39 lv_X12_107 mo_X12_allOf hR.cn (Nat.le_of_ble_eq_true rfl) (Nat.le_of_ble_eq_true rfl) (by decide) (s_allOf D hR (v) (by omega)) ?_
    refine e_istore_n dX12_goes_42 (by decide) ?_
    obtain ⟨al, hal⟩ : ∃ z, z = allR M.1 v := ⟨_, rfl⟩
    rw [← hal]
    refine e_iconst (nI (0)) dX12_goes_43 (by decide) ?_
    refine e_istore dX12_goes_44 (by decide) ?_
    refine e_iload dX12_goes_46 rfl ?_
    refine e_iconst (nI (3)) dX12_goes_48 (by decide) ?_
    refine e_icmp_geN 120 dX12_goes_49 (by decide) (by omega) (by omega) (fun hcq49 => absurd hcq49 (by decide)) (fun hcq49 => ?_)
    refine e_aload_n dX12_goes_52 rfl ?_
    refine e_iload_n dX12_goes_53 rfl ?_
    refine e_iload dX12_goes_54 rfl ?_
    refine c_V2iR (N := mX12_of) dX12_goes_56 lv_X12_99 mo_X12_of hR.cn (Nat.le_of_ble_eq_true rfl) (Nat.le_of_ble_eq_true rfl) (by decide) (s_of D hR (v) (0) (by omega) (by omega)) ?_
    refine e_aload_n dX12_goes_59 rfl ?_
    refine e_iconst (nI (1)) dX12_goes_60 (by decide) ?_
    refine e_iload dX12_goes_61 rfl ?_
    refine e_aload_n dX12_goes_63 rfl ?_
    refine e_get dX12_goes_64 fl_X12_25_12 hR.1 rfl ?_
    refine e_iload_n dX12_goes_67 rfl ?_
    refine e_ild (v) ((C v)) dX12_goes_68 (hR.2.2.1 5 (by decide) (by decide) (by decide)) rfl (by show _ < 8; omega) (by decide) (hC v (by omega)) ?_
    refine e_iload_n dX12_goes_69 rfl ?_
    refine e_iconst (nI (0)) dX12_goes_70 (by decide) ?_
    refine c_V5i (N := mX12_given) dX12_goes_71 lv_X12_243 mo_X12_given hR.cn (Nat.le_of_ble_eq_true rfl) (Nat.le_of_ble_eq_true rfl) (by decide) (s_givenE D hR 1 (by decide) (tx 1) (hY.2.2.2.2.2 1 (by decide)) _ _ _ _) (fun h hP => ?_)
    obtain ⟨σ, hR, hE1, hF1⟩ := hP
    have hF := hF.trans hF1
    have hE : ∀ i, i ≠ 8 → i ≠ 11 → σ i = σ0 i := fun i z1 z2 => (hE1 i z1).trans (hE i z1 z2)
    have hC : ∀ w, w < nv → σ 5 w = C w := fun w hw => by rw [hE1 5 (by decide)]; exact hC w hw
    have h11 : ∀ w, w < 3 → σ 11 w = M.2 w := fun w hw => by rw [hE1 11 (by decide)]; exact h11 w hw
    refine e_imul dX12_goes_74 ?_
    refine e_bipush (nI (100)) dX12_goes_75 (by decide) ?_
    refine e_idiv dX12_goes_77 (by decide) ?_
    refine e_istore dX12_goes_78 (by decide) ?_
    refine e_aload_n dX12_goes_80 rfl ?_
    refine e_iload_n dX12_goes_81 rfl ?_
    refine e_iload dX12_goes_82 rfl ?_
    refine e_iload dX12_goes_84 rfl ?_
    refine e_ineg dX12_goes_86 ?_
    refine e_i2l dX12_goes_87 ?_
    refine c_V3v (N := mX12_change) dX12_goes_88 lv_X12_257 mo_X12_change hR.cn (Nat.le_of_ble_eq_true rfl) (Nat.le_of_ble_eq_true rfl) (by decide) (s_change D hR (v) (0) (by omega) (by omega) _) (fun h hP => ?_)
    obtain ⟨hR, hF1⟩ := hP
    have hF := hF.trans hF1
    skip
    refine e_aload_n dX12_goes_91 rfl ?_
    refine e_get dX12_goes_92 fl_X12_54_12 hR.1 rfl ?_
    refine e_iload dX12_goes_95 rfl ?_
    refine e_dup2 dX12_goes_97 rfl rfl ?_
    refine e_ild (0) ((M.2 0)) dX12_goes_98 (hR.2.2.1 11 (by decide) (by decide) (by decide)) rfl (by show _ < 3; omega) (by decide) (h11 _ (by decide)) ?_
    refine e_iload_n dX12_goes_99 rfl ?_
    refine e_iload_n dX12_goes_100 rfl ?_
    have K1 : Ev D 6 mX12_goes 112 [some (.ref (82)), some (.int (nI (hv))), some (.int (nI (v))), some (.int (al)), some (.int (nI (0))), some (.int (((M.1 (16 + 4 * v + 1 + 0)) * (givenR (tx 1) 1 (nI (0)) ((C v)) ((al)) (nI (0)))) / nI (100)))] [.int (if v = hv then nI 0 else (((M.1 (16 + 4 * v + 1 + 0)) * (givenR (tx 1) 1 (nI (0)) ((C v)) ((al)) (nI (0)))) / nI (100)) / nI 2), .int (M.2 0), .int (nI (0)), .ref (94)] h 0 0 post := by
      refine e_iadd dX12_goes_112 ?_
      refine r_st 11 0 dX12_goes_113 hR hF rfl (by decide) rfl (by show _ < 3; omega) (fun h hR hF => ?_)
      obtain ⟨M1, hM1⟩ : ∃ z, z = goS (tx 1) (C v) al v hv 0 M := ⟨_, rfl⟩
      obtain ⟨σ, hR, hE, hC, h11⟩ : ∃ z, RefAt h M1.1 z τ ∧ (∀ i, i ≠ 8 → i ≠ 11 → z i = σ0 i) ∧ (∀ w, w < nv → z 5 w = C w) ∧ ∀ w, w < 3 → z 11 w = M1.2 w := by
        refine ⟨_, by rw [hM1]; exact hR, fun i z1 z2 => by rw [va_upN _ _ z2]; exact hE i z1 z2, fun w hw => by rw [va_upN _ _ (by decide)]; exact hC w hw, fun w hw => ?_⟩
        rw [va_upS, hM1]
        show upd _ _ _ _ = upd _ _ _ _
        by_cases z9 : w = 0
        · rw [z9, pk_us, pk_us]
        · rw [pk_un z9, pk_un z9]; exact h11 w hw
      have hY : YW M1.1 nv tc tx := by rw [hM1]; exact YW_upd hY (FI_pe (by omega) (by decide))
      refine e_iincN 1 dX12_goes_114 rfl (by decide) (nI_add 0 1) ?_
      refine e_goto 46 dX12_goes_117 (by decide) ?_
      refine e_iload dX12_goes_46 rfl ?_
      refine e_iconst (nI (3)) dX12_goes_48 (by decide) ?_
      refine e_icmp_geN 120 dX12_goes_49 (by decide) (by omega) (by omega) (fun hcq49 => absurd hcq49 (by decide)) (fun hcq49 => ?_)
      refine e_aload_n dX12_goes_52 rfl ?_
      refine e_iload_n dX12_goes_53 rfl ?_
      refine e_iload dX12_goes_54 rfl ?_
      refine c_V2iR (N := mX12_of) dX12_goes_56 lv_X12_99 mo_X12_of hR.cn (Nat.le_of_ble_eq_true rfl) (Nat.le_of_ble_eq_true rfl) (by decide) (s_of D hR (v) (1) (by omega) (by omega)) ?_
      refine e_aload_n dX12_goes_59 rfl ?_
      refine e_iconst (nI (1)) dX12_goes_60 (by decide) ?_
      refine e_iload dX12_goes_61 rfl ?_
      refine e_aload_n dX12_goes_63 rfl ?_
      refine e_get dX12_goes_64 fl_X12_25_12 hR.1 rfl ?_
      refine e_iload_n dX12_goes_67 rfl ?_
      refine e_ild (v) ((C v)) dX12_goes_68 (hR.2.2.1 5 (by decide) (by decide) (by decide)) rfl (by show _ < 8; omega) (by decide) (hC v (by omega)) ?_
      refine e_iload_n dX12_goes_69 rfl ?_
      refine e_iconst (nI (0)) dX12_goes_70 (by decide) ?_
      refine c_V5i (N := mX12_given) dX12_goes_71 lv_X12_243 mo_X12_given hR.cn (Nat.le_of_ble_eq_true rfl) (Nat.le_of_ble_eq_true rfl) (by decide) (s_givenE D hR 1 (by decide) (tx 1) (hY.2.2.2.2.2 1 (by decide)) _ _ _ _) (fun h hP => ?_)
      obtain ⟨σ, hR, hE1, hF1⟩ := hP
      have hF := hF.trans hF1
      have hE : ∀ i, i ≠ 8 → i ≠ 11 → σ i = σ0 i := fun i z1 z2 => (hE1 i z1).trans (hE i z1 z2)
      have hC : ∀ w, w < nv → σ 5 w = C w := fun w hw => by rw [hE1 5 (by decide)]; exact hC w hw
      have h11 : ∀ w, w < 3 → σ 11 w = M1.2 w := fun w hw => by rw [hE1 11 (by decide)]; exact h11 w hw
      refine e_imul dX12_goes_74 ?_
      refine e_bipush (nI (100)) dX12_goes_75 (by decide) ?_
      refine e_idiv dX12_goes_77 (by decide) ?_
      refine e_istore dX12_goes_78 (by decide) ?_
      refine e_aload_n dX12_goes_80 rfl ?_
      refine e_iload_n dX12_goes_81 rfl ?_
      refine e_iload dX12_goes_82 rfl ?_
      refine e_iload dX12_goes_84 rfl ?_
      refine e_ineg dX12_goes_86 ?_
      refine e_i2l dX12_goes_87 ?_
      refine c_V3v (N := mX12_change) dX12_goes_88 lv_X12_257 mo_X12_change hR.cn (Nat.le_of_ble_eq_true rfl) (Nat.le_of_ble_eq_true rfl) (by decide) (s_change D hR (v) (1) (by omega) (by omega) _) (fun h hP => ?_)
      obtain ⟨hR, hF1⟩ := hP
      have hF := hF.trans hF1
      skip
      refine e_aload_n dX12_goes_91 rfl ?_
      refine e_get dX12_goes_92 fl_X12_54_12 hR.1 rfl ?_
      refine e_iload dX12_goes_95 rfl ?_
      refine e_dup2 dX12_goes_97 rfl rfl ?_
      refine e_ild (1) ((M1.2 1)) dX12_goes_98 (hR.2.2.1 11 (by decide) (by decide) (by decide)) rfl (by show _ < 3; omega) (by decide) (h11 _ (by decide)) ?_
      refine e_iload_n dX12_goes_99 rfl ?_
      refine e_iload_n dX12_goes_100 rfl ?_
      have K2 : Ev D 6 mX12_goes 112 [some (.ref (82)), some (.int (nI (hv))), some (.int (nI (v))), some (.int (al)), some (.int (nI (1))), some (.int (((M1.1 (16 + 4 * v + 1 + 1)) * (givenR (tx 1) 1 (nI (1)) ((C v)) ((al)) (nI (0)))) / nI (100)))] [.int (if v = hv then nI 0 else (((M1.1 (16 + 4 * v + 1 + 1)) * (givenR (tx 1) 1 (nI (1)) ((C v)) ((al)) (nI (0)))) / nI (100)) / nI 2), .int (M1.2 1), .int (nI (1)), .ref (94)] h 0 0 post := by
        refine e_iadd dX12_goes_112 ?_
        refine r_st 11 1 dX12_goes_113 hR hF rfl (by decide) rfl (by show _ < 3; omega) (fun h hR hF => ?_)
        obtain ⟨M2, hM2⟩ : ∃ z, z = goS (tx 1) (C v) al v hv 1 M1 := ⟨_, rfl⟩
        obtain ⟨σ, hR, hE, hC, h11⟩ : ∃ z, RefAt h M2.1 z τ ∧ (∀ i, i ≠ 8 → i ≠ 11 → z i = σ0 i) ∧ (∀ w, w < nv → z 5 w = C w) ∧ ∀ w, w < 3 → z 11 w = M2.2 w := by
          refine ⟨_, by rw [hM2]; exact hR, fun i z1 z2 => by rw [va_upN _ _ z2]; exact hE i z1 z2, fun w hw => by rw [va_upN _ _ (by decide)]; exact hC w hw, fun w hw => ?_⟩
          rw [va_upS, hM2]
          show upd _ _ _ _ = upd _ _ _ _
          by_cases z9 : w = 1
          · rw [z9, pk_us, pk_us]
          · rw [pk_un z9, pk_un z9]; exact h11 w hw
        have hY : YW M2.1 nv tc tx := by rw [hM2]; exact YW_upd hY (FI_pe (by omega) (by decide))
        refine e_iincN 2 dX12_goes_114 rfl (by decide) (nI_add 1 1) ?_
        refine e_goto 46 dX12_goes_117 (by decide) ?_
        refine e_iload dX12_goes_46 rfl ?_
        refine e_iconst (nI (3)) dX12_goes_48 (by decide) ?_
        refine e_icmp_geN 120 dX12_goes_49 (by decide) (by omega) (by omega) (fun hcq49 => absurd hcq49 (by decide)) (fun hcq49 => ?_)
        refine e_aload_n dX12_goes_52 rfl ?_
        refine e_iload_n dX12_goes_53 rfl ?_
        refine e_iload dX12_goes_54 rfl ?_
        refine c_V2iR (N := mX12_of) dX12_goes_56 lv_X12_99 mo_X12_of hR.cn (Nat.le_of_ble_eq_true rfl) (Nat.le_of_ble_eq_true rfl) (by decide) (s_of D hR (v) (2) (by omega) (by omega)) ?_
        refine e_aload_n dX12_goes_59 rfl ?_
        refine e_iconst (nI (1)) dX12_goes_60 (by decide) ?_
        refine e_iload dX12_goes_61 rfl ?_
        refine e_aload_n dX12_goes_63 rfl ?_
        refine e_get dX12_goes_64 fl_X12_25_12 hR.1 rfl ?_
        refine e_iload_n dX12_goes_67 rfl ?_
        refine e_ild (v) ((C v)) dX12_goes_68 (hR.2.2.1 5 (by decide) (by decide) (by decide)) rfl (by show _ < 8; omega) (by decide) (hC v (by omega)) ?_
        refine e_iload_n dX12_goes_69 rfl ?_
        refine e_iconst (nI (0)) dX12_goes_70 (by decide) ?_
        refine c_V5i (N := mX12_given) dX12_goes_71 lv_X12_243 mo_X12_given hR.cn (Nat.le_of_ble_eq_true rfl) (Nat.le_of_ble_eq_true rfl) (by decide) (s_givenE D hR 1 (by decide) (tx 1) (hY.2.2.2.2.2 1 (by decide)) _ _ _ _) (fun h hP => ?_)
        obtain ⟨σ, hR, hE1, hF1⟩ := hP
        have hF := hF.trans hF1
        have hE : ∀ i, i ≠ 8 → i ≠ 11 → σ i = σ0 i := fun i z1 z2 => (hE1 i z1).trans (hE i z1 z2)
        have hC : ∀ w, w < nv → σ 5 w = C w := fun w hw => by rw [hE1 5 (by decide)]; exact hC w hw
        have h11 : ∀ w, w < 3 → σ 11 w = M2.2 w := fun w hw => by rw [hE1 11 (by decide)]; exact h11 w hw
        refine e_imul dX12_goes_74 ?_
        refine e_bipush (nI (100)) dX12_goes_75 (by decide) ?_
        refine e_idiv dX12_goes_77 (by decide) ?_
        refine e_istore dX12_goes_78 (by decide) ?_
        refine e_aload_n dX12_goes_80 rfl ?_
        refine e_iload_n dX12_goes_81 rfl ?_
        refine e_iload dX12_goes_82 rfl ?_
        refine e_iload dX12_goes_84 rfl ?_
        refine e_ineg dX12_goes_86 ?_
        refine e_i2l dX12_goes_87 ?_
        refine c_V3v (N := mX12_change) dX12_goes_88 lv_X12_257 mo_X12_change hR.cn (Nat.le_of_ble_eq_true rfl) (Nat.le_of_ble_eq_true rfl) (by decide) (s_change D hR (v) (2) (by omega) (by omega) _) (fun h hP => ?_)
        obtain ⟨hR, hF1⟩ := hP
        have hF := hF.trans hF1
        skip
        refine e_aload_n dX12_goes_91 rfl ?_
        refine e_get dX12_goes_92 fl_X12_54_12 hR.1 rfl ?_
        refine e_iload dX12_goes_95 rfl ?_
        refine e_dup2 dX12_goes_97 rfl rfl ?_
        refine e_ild (2) ((M2.2 2)) dX12_goes_98 (hR.2.2.1 11 (by decide) (by decide) (by decide)) rfl (by show _ < 3; omega) (by decide) (h11 _ (by decide)) ?_
        refine e_iload_n dX12_goes_99 rfl ?_
        refine e_iload_n dX12_goes_100 rfl ?_
        have K3 : Ev D 6 mX12_goes 112 [some (.ref (82)), some (.int (nI (hv))), some (.int (nI (v))), some (.int (al)), some (.int (nI (2))), some (.int (((M2.1 (16 + 4 * v + 1 + 2)) * (givenR (tx 1) 1 (nI (2)) ((C v)) ((al)) (nI (0)))) / nI (100)))] [.int (if v = hv then nI 0 else (((M2.1 (16 + 4 * v + 1 + 2)) * (givenR (tx 1) 1 (nI (2)) ((C v)) ((al)) (nI (0)))) / nI (100)) / nI 2), .int (M2.2 2), .int (nI (2)), .ref (94)] h 0 0 post := by
          refine e_iadd dX12_goes_112 ?_
          refine r_st 11 2 dX12_goes_113 hR hF rfl (by decide) rfl (by show _ < 3; omega) (fun h hR hF => ?_)
          obtain ⟨M3, hM3⟩ : ∃ z, z = goS (tx 1) (C v) al v hv 2 M2 := ⟨_, rfl⟩
          obtain ⟨σ, hR, hE, hC, h11⟩ : ∃ z, RefAt h M3.1 z τ ∧ (∀ i, i ≠ 8 → i ≠ 11 → z i = σ0 i) ∧ (∀ w, w < nv → z 5 w = C w) ∧ ∀ w, w < 3 → z 11 w = M3.2 w := by
            refine ⟨_, by rw [hM3]; exact hR, fun i z1 z2 => by rw [va_upN _ _ z2]; exact hE i z1 z2, fun w hw => by rw [va_upN _ _ (by decide)]; exact hC w hw, fun w hw => ?_⟩
            rw [va_upS, hM3]
            show upd _ _ _ _ = upd _ _ _ _
            by_cases z9 : w = 2
            · rw [z9, pk_us, pk_us]
            · rw [pk_un z9, pk_un z9]; exact h11 w hw
          have hY : YW M3.1 nv tc tx := by rw [hM3]; exact YW_upd hY (FI_pe (by omega) (by decide))
          refine e_iincN 3 dX12_goes_114 rfl (by decide) (nI_add 2 1) ?_
          refine e_goto 46 dX12_goes_117 (by decide) ?_
          refine e_iload dX12_goes_46 rfl ?_
          refine e_iconst (nI (3)) dX12_goes_48 (by decide) ?_
          refine e_icmp_geN 120 dX12_goes_49 (by decide) (by omega) (by omega) (fun hcq49 => ?_) (fun hcq49 => absurd hcq49 (by decide))
          refine e_iincN (v + 1) dX12_goes_120 rfl (by decide) (nI_add _ _) ?_
          refine e_goto 27 dX12_goes_123 (by decide) ?_
          refine Ev.drop 3 (Ev.drop 4 (Ev.drop 5 ?_))
          exact ih (v + 1) h M3 σ (by omega) hR hF hY (by rw [goV, ← hM, ← hal, ← hM1, ← hM2, ← hM3]) hE hC h11
        refine e_icmp_neN 108 dX12_goes_101 (by decide) (by omega) (by omega) (fun hcq101 => ?_) (fun hcq101 => ?_)
        · refine e_iload dX12_goes_108 rfl ?_
          refine e_iconst (nI (2)) dX12_goes_110 (by decide) ?_
          refine e_idiv dX12_goes_111 (by decide) ?_
          exact e_top ((if v = hv then nI 0 else (((M2.1 (16 + 4 * v + 1 + 2)) * (givenR (tx 1) 1 (nI (2)) ((C v)) ((al)) (nI (0)))) / nI (100)) / nI 2)) (by first | exact (if_pos (by assumption)).symm | exact (if_neg (by assumption)).symm | exact (b2_t (by assumption)).symm | exact (b2_f (by assumption)).symm | simp_all [b2]) K3
        · refine e_iconst (nI (0)) dX12_goes_104 (by decide) ?_
          refine e_goto 112 dX12_goes_105 (by decide) ?_
          exact e_top ((if v = hv then nI 0 else (((M2.1 (16 + 4 * v + 1 + 2)) * (givenR (tx 1) 1 (nI (2)) ((C v)) ((al)) (nI (0)))) / nI (100)) / nI 2)) (by first | exact (if_pos (by assumption)).symm | exact (if_neg (by assumption)).symm | exact (b2_t (by assumption)).symm | exact (b2_f (by assumption)).symm | simp_all [b2]) K3
      refine e_icmp_neN 108 dX12_goes_101 (by decide) (by omega) (by omega) (fun hcq101 => ?_) (fun hcq101 => ?_)
      · refine e_iload dX12_goes_108 rfl ?_
        refine e_iconst (nI (2)) dX12_goes_110 (by decide) ?_
        refine e_idiv dX12_goes_111 (by decide) ?_
        exact e_top ((if v = hv then nI 0 else (((M1.1 (16 + 4 * v + 1 + 1)) * (givenR (tx 1) 1 (nI (1)) ((C v)) ((al)) (nI (0)))) / nI (100)) / nI 2)) (by first | exact (if_pos (by assumption)).symm | exact (if_neg (by assumption)).symm | exact (b2_t (by assumption)).symm | exact (b2_f (by assumption)).symm | simp_all [b2]) K2
      · refine e_iconst (nI (0)) dX12_goes_104 (by decide) ?_
        refine e_goto 112 dX12_goes_105 (by decide) ?_
        exact e_top ((if v = hv then nI 0 else (((M1.1 (16 + 4 * v + 1 + 1)) * (givenR (tx 1) 1 (nI (1)) ((C v)) ((al)) (nI (0)))) / nI (100)) / nI 2)) (by first | exact (if_pos (by assumption)).symm | exact (if_neg (by assumption)).symm | exact (b2_t (by assumption)).symm | exact (b2_f (by assumption)).symm | simp_all [b2]) K2
    refine e_icmp_neN 108 dX12_goes_101 (by decide) (by omega) (by omega) (fun hcq101 => ?_) (fun hcq101 => ?_)
    · refine e_iload dX12_goes_108 rfl ?_
      refine e_iconst (nI (2)) dX12_goes_110 (by decide) ?_
      refine e_idiv dX12_goes_111 (by decide) ?_
      exact e_top ((if v = hv then nI 0 else (((M.1 (16 + 4 * v + 1 + 0)) * (givenR (tx 1) 1 (nI (0)) ((C v)) ((al)) (nI (0)))) / nI (100)) / nI 2)) (by first | exact (if_pos (by assumption)).symm | exact (if_neg (by assumption)).symm | exact (b2_t (by assumption)).symm | exact (b2_f (by assumption)).symm | simp_all [b2]) K1
    · refine e_iconst (nI (0)) dX12_goes_104 (by decide) ?_
      refine e_goto 112 dX12_goes_105 (by decide) ?_
      exact e_top ((if v = hv then nI 0 else (((M.1 (16 + 4 * v + 1 + 0)) * (givenR (tx 1) 1 (nI (0)) ((C v)) ((al)) (nI (0)))) / nI (100)) / nI 2)) (by first | exact (if_pos (by assumption)).symm | exact (if_neg (by assumption)).symm | exact (b2_t (by assumption)).symm | exact (b2_f (by assumption)).symm | simp_all [b2]) K1
set_option maxRecDepth 20000 in
theorem s_goes (D : En) {h : AH} {N : Nat → Int32} {σ : Nat → Nat → Int32} {τ : Nat → Int32} (hR : RefAt h N σ τ) {nv tc : Nat} {tx : Nat → List Nat} (hY : YW N nv tc tx) (C : Nat → Int32) (hC : ∀ w, w < nv → σ 5 w = C w) : Sp D 6 mX12_goes [.ref (82)] h 0 0 (none) (fun h' => ∃ σ', RefAt h' (goR (tx 1) C N nv) σ' τ ∧ (∀ i, i ≠ 8 → i ≠ 11 → σ' i = σ i) ∧ FrR h h') := by
  intro post hp
  show Ev D 6 mX12_goes 0 [some (.ref (82)), none, none, none, none, none] [] h 0 0 post
  have hnv := hY.2.1
  obtain ⟨hv, hhv⟩ : ∃ z, z = havW C nv := ⟨_, rfl⟩
  have hhv8 : hv < 8 := by
    rcases Nat.eq_zero_or_pos nv with z | z
    · rw [hhv, z]; show 0 < 8; decide
    · have := havW_lt C nv z; omega
  obtain ⟨h00, hh00⟩ : ∃ z, z = h := ⟨_, rfl⟩
  have hF : FrR h00 h := by rw [hh00]; exact FrR.rf
  rw [← hh00] at hp
  refine e_aload_n dX12_goes_0 rfl ?_
  refine c_V0iR (N := mX12_havenOf) dX12_goes_1 lv_X12_167 mo_X12_havenOf hR.cn (Nat.le_of_ble_eq_true rfl) (Nat.le_of_ble_eq_true rfl) (by decide) (s_havenOf D hR hY.1 hY.2.1) ?_
  refine e_top (nI (hv)) (by rw [hhv, havW_congr hC]) ?_
  refine e_istore_n dX12_goes_4 (by decide) ?_
  refine e_iconst (nI (0)) dX12_goes_5 (by decide) ?_
  refine e_istore_n dX12_goes_6 (by decide) ?_
  refine e_iload_n dX12_goes_7 rfl ?_
  refine e_iconst (nI (3)) dX12_goes_8 (by decide) ?_
  refine e_icmp_geN 25 dX12_goes_9 (by decide) (by omega) (by omega) (fun hcq9 => absurd hcq9 (by decide)) (fun hcq9 => ?_)
  refine e_aload_n dX12_goes_12 rfl ?_
  refine e_get dX12_goes_13 fl_X12_54_12 hR.1 rfl ?_
  refine e_iload_n dX12_goes_16 rfl ?_
  refine e_iconst (nI (0)) dX12_goes_17 (by decide) ?_
  refine r_st 11 (0) dX12_goes_18 hR hF rfl (by decide) rfl (by show _ < 3; omega) (fun h hR hF => ?_)
  refine e_iincN 1 dX12_goes_19 rfl (by decide) (nI_add 0 1) ?_
  refine e_goto 7 dX12_goes_22 (by decide) ?_
  refine e_iload_n dX12_goes_7 rfl ?_
  refine e_iconst (nI (3)) dX12_goes_8 (by decide) ?_
  refine e_icmp_geN 25 dX12_goes_9 (by decide) (by omega) (by omega) (fun hcq9 => absurd hcq9 (by decide)) (fun hcq9 => ?_)
  refine e_aload_n dX12_goes_12 rfl ?_
  refine e_get dX12_goes_13 fl_X12_54_12 hR.1 rfl ?_
  refine e_iload_n dX12_goes_16 rfl ?_
  refine e_iconst (nI (0)) dX12_goes_17 (by decide) ?_
  refine r_st 11 (1) dX12_goes_18 hR hF rfl (by decide) rfl (by show _ < 3; omega) (fun h hR hF => ?_)
  refine e_iincN 2 dX12_goes_19 rfl (by decide) (nI_add 1 1) ?_
  refine e_goto 7 dX12_goes_22 (by decide) ?_
  refine e_iload_n dX12_goes_7 rfl ?_
  refine e_iconst (nI (3)) dX12_goes_8 (by decide) ?_
  refine e_icmp_geN 25 dX12_goes_9 (by decide) (by omega) (by omega) (fun hcq9 => absurd hcq9 (by decide)) (fun hcq9 => ?_)
  refine e_aload_n dX12_goes_12 rfl ?_
  refine e_get dX12_goes_13 fl_X12_54_12 hR.1 rfl ?_
  refine e_iload_n dX12_goes_16 rfl ?_
  refine e_iconst (nI (0)) dX12_goes_17 (by decide) ?_
  refine r_st 11 (2) dX12_goes_18 hR hF rfl (by decide) rfl (by show _ < 3; omega) (fun h hR hF => ?_)
  refine e_iincN 3 dX12_goes_19 rfl (by decide) (nI_add 2 1) ?_
  refine e_goto 7 dX12_goes_22 (by decide) ?_
  refine e_iload_n dX12_goes_7 rfl ?_
  refine e_iconst (nI (3)) dX12_goes_8 (by decide) ?_
  refine e_icmp_geN 25 dX12_goes_9 (by decide) (by omega) (by omega) (fun hcq9 => ?_) (fun hcq9 => absurd hcq9 (by decide))
  refine e_iconst (nI (0)) dX12_goes_25 (by decide) ?_
  refine e_istore_n dX12_goes_26 (by decide) ?_
  obtain ⟨σ1, hR, hE, hC1, h11⟩ : ∃ z, RefAt h N z τ ∧ (∀ i, i ≠ 8 → i ≠ 11 → z i = σ i) ∧ (∀ w, w < nv → z 5 w = C w) ∧ ∀ w, w < 3 → z 11 w = nI 0 := by
    refine ⟨_, hR, fun i z1 z2 => ?_, fun w hw => ?_, fun w hw => ?_⟩
    · rw [va_upN _ _ z2, va_upN _ _ z2, va_upN _ _ z2]
    · rw [va_upN _ _ (by decide), va_upN _ _ (by decide), va_upN _ _ (by decide)]; exact hC w hw
    · rcases (show w = 0 ∨ w = 1 ∨ w = 2 by omega) with rfl | rfl | rfl <;> simp [upd, va_up]
  refine l_goes D (N0 := N) (tc := tc) C hv hhv8 (h0 := h00) (fun h σ hR hE h11 hF hY => ?_) nv 0 h (N, fun _ => nI 0) σ1 (by omega) hR hF hY rfl hE hC1 h11
  rcases Nat.eq_zero_or_pos nv with hn0 | hn0
  · refine e_iconst (nI (0)) dX12_goes_126 (by decide) ?_
    refine e_istore_n dX12_goes_127 (by decide) ?_
    refine e_iload_n dX12_goes_128 rfl ?_
    refine e_iconst (nI (3)) dX12_goes_129 (by decide) ?_
    refine e_icmp_geN 161 dX12_goes_130 (by decide) (by omega) (by omega) (fun hcq130 => absurd hcq130 (by decide)) (fun hcq130 => ?_)
    refine e_aload_n dX12_goes_133 rfl ?_
    refine e_get dX12_goes_134 fl_X12_9_12 hR.1 rfl ?_
    refine e_iconst (nI (1)) dX12_goes_137 (by decide) ?_
    refine e_ild (1) (nI (nv)) dX12_goes_138 hR.2.1 rfl (by omega) (by decide) hY.1 ?_
    refine e_if_leN 161 dX12_goes_139 (by decide) (by omega) (fun hcq139 => ?_) (fun hcq139 => absurd hcq139 (by omega))
    exact e_vret dX12_goes_161 rfl (hp _ ⟨σ, by unfold goR; rw [if_pos hn0]; rw [hn0] at hR; exact hR, hE, hF⟩)
  · refine e_iconst (nI (0)) dX12_goes_126 (by decide) ?_
    refine e_istore_n dX12_goes_127 (by decide) ?_
    refine e_iload_n dX12_goes_128 rfl ?_
    refine e_iconst (nI (3)) dX12_goes_129 (by decide) ?_
    refine e_icmp_geN 161 dX12_goes_130 (by decide) (by omega) (by omega) (fun hcq130 => absurd hcq130 (by decide)) (fun hcq130 => ?_)
    refine e_aload_n dX12_goes_133 rfl ?_
    refine e_get dX12_goes_134 fl_X12_9_12 hR.1 rfl ?_
    refine e_iconst (nI (1)) dX12_goes_137 (by decide) ?_
    refine e_ild (1) (nI (nv)) dX12_goes_138 hR.2.1 rfl (by omega) (by decide) hY.1 ?_
    refine e_if_leN 161 dX12_goes_139 (by decide) (by omega) (fun hcq139 => absurd hcq139 (by omega)) (fun hcq139 => ?_)
    refine e_aload_n dX12_goes_142 rfl ?_
    refine e_iload_n dX12_goes_143 rfl ?_
    refine e_iload_n dX12_goes_144 rfl ?_
    refine e_aload_n dX12_goes_145 rfl ?_
    refine e_get dX12_goes_146 fl_X12_54_12 hR.1 rfl ?_
    refine e_iload_n dX12_goes_149 rfl ?_
    refine e_ild (0) (((goV (tx 1) C hv N nv).2 0)) dX12_goes_150 (hR.2.2.1 11 (by decide) (by decide) (by decide)) rfl (by show _ < 3; omega) (by decide) (h11 _ (by decide)) ?_
    refine e_i2l dX12_goes_151 ?_
    refine c_V3v (N := mX12_change) dX12_goes_152 lv_X12_257 mo_X12_change hR.cn (Nat.le_of_ble_eq_true rfl) (Nat.le_of_ble_eq_true rfl) (by decide) (s_change D hR (hv) (0) (by omega) (by omega) _) (fun h hP => ?_)
    obtain ⟨hR, hF1⟩ := hP
    have hF := hF.trans hF1
    have hR : RefAt h (goF (goV (tx 1) C hv N nv) hv 0 (goV (tx 1) C hv N nv).1) σ τ := hR
    have hY : YW (goF (goV (tx 1) C hv N nv) hv 0 (goV (tx 1) C hv N nv).1) nv tc tx := YW_upd hY (FI_pe (by omega) (by decide))
    refine e_iincN 1 dX12_goes_155 rfl (by decide) (nI_add 0 1) ?_
    refine e_goto 128 dX12_goes_158 (by decide) ?_
    refine e_iload_n dX12_goes_128 rfl ?_
    refine e_iconst (nI (3)) dX12_goes_129 (by decide) ?_
    refine e_icmp_geN 161 dX12_goes_130 (by decide) (by omega) (by omega) (fun hcq130 => absurd hcq130 (by decide)) (fun hcq130 => ?_)
    refine e_aload_n dX12_goes_133 rfl ?_
    refine e_get dX12_goes_134 fl_X12_9_12 hR.1 rfl ?_
    refine e_iconst (nI (1)) dX12_goes_137 (by decide) ?_
    refine e_ild (1) (nI (nv)) dX12_goes_138 hR.2.1 rfl (by omega) (by decide) hY.1 ?_
    refine e_if_leN 161 dX12_goes_139 (by decide) (by omega) (fun hcq139 => absurd hcq139 (by omega)) (fun hcq139 => ?_)
    refine e_aload_n dX12_goes_142 rfl ?_
    refine e_iload_n dX12_goes_143 rfl ?_
    refine e_iload_n dX12_goes_144 rfl ?_
    refine e_aload_n dX12_goes_145 rfl ?_
    refine e_get dX12_goes_146 fl_X12_54_12 hR.1 rfl ?_
    refine e_iload_n dX12_goes_149 rfl ?_
    refine e_ild (1) (((goV (tx 1) C hv N nv).2 1)) dX12_goes_150 (hR.2.2.1 11 (by decide) (by decide) (by decide)) rfl (by show _ < 3; omega) (by decide) (h11 _ (by decide)) ?_
    refine e_i2l dX12_goes_151 ?_
    refine c_V3v (N := mX12_change) dX12_goes_152 lv_X12_257 mo_X12_change hR.cn (Nat.le_of_ble_eq_true rfl) (Nat.le_of_ble_eq_true rfl) (by decide) (s_change D hR (hv) (1) (by omega) (by omega) _) (fun h hP => ?_)
    obtain ⟨hR, hF1⟩ := hP
    have hF := hF.trans hF1
    have hR : RefAt h (goF (goV (tx 1) C hv N nv) hv 1 (goF (goV (tx 1) C hv N nv) hv 0 (goV (tx 1) C hv N nv).1)) σ τ := hR
    have hY : YW (goF (goV (tx 1) C hv N nv) hv 1 (goF (goV (tx 1) C hv N nv) hv 0 (goV (tx 1) C hv N nv).1)) nv tc tx := YW_upd hY (FI_pe (by omega) (by decide))
    refine e_iincN 2 dX12_goes_155 rfl (by decide) (nI_add 1 1) ?_
    refine e_goto 128 dX12_goes_158 (by decide) ?_
    refine e_iload_n dX12_goes_128 rfl ?_
    refine e_iconst (nI (3)) dX12_goes_129 (by decide) ?_
    refine e_icmp_geN 161 dX12_goes_130 (by decide) (by omega) (by omega) (fun hcq130 => absurd hcq130 (by decide)) (fun hcq130 => ?_)
    refine e_aload_n dX12_goes_133 rfl ?_
    refine e_get dX12_goes_134 fl_X12_9_12 hR.1 rfl ?_
    refine e_iconst (nI (1)) dX12_goes_137 (by decide) ?_
    refine e_ild (1) (nI (nv)) dX12_goes_138 hR.2.1 rfl (by omega) (by decide) hY.1 ?_
    refine e_if_leN 161 dX12_goes_139 (by decide) (by omega) (fun hcq139 => absurd hcq139 (by omega)) (fun hcq139 => ?_)
    refine e_aload_n dX12_goes_142 rfl ?_
    refine e_iload_n dX12_goes_143 rfl ?_
    refine e_iload_n dX12_goes_144 rfl ?_
    refine e_aload_n dX12_goes_145 rfl ?_
    refine e_get dX12_goes_146 fl_X12_54_12 hR.1 rfl ?_
    refine e_iload_n dX12_goes_149 rfl ?_
    refine e_ild (2) (((goV (tx 1) C hv N nv).2 2)) dX12_goes_150 (hR.2.2.1 11 (by decide) (by decide) (by decide)) rfl (by show _ < 3; omega) (by decide) (h11 _ (by decide)) ?_
    refine e_i2l dX12_goes_151 ?_
    refine c_V3v (N := mX12_change) dX12_goes_152 lv_X12_257 mo_X12_change hR.cn (Nat.le_of_ble_eq_true rfl) (Nat.le_of_ble_eq_true rfl) (by decide) (s_change D hR (hv) (2) (by omega) (by omega) _) (fun h hP => ?_)
    obtain ⟨hR, hF1⟩ := hP
    have hF := hF.trans hF1
    have hR : RefAt h (goF (goV (tx 1) C hv N nv) hv 2 (goF (goV (tx 1) C hv N nv) hv 1 (goF (goV (tx 1) C hv N nv) hv 0 (goV (tx 1) C hv N nv).1))) σ τ := hR
    have hY : YW (goF (goV (tx 1) C hv N nv) hv 2 (goF (goV (tx 1) C hv N nv) hv 1 (goF (goV (tx 1) C hv N nv) hv 0 (goV (tx 1) C hv N nv).1))) nv tc tx := YW_upd hY (FI_pe (by omega) (by decide))
    refine e_iincN 3 dX12_goes_155 rfl (by decide) (nI_add 2 1) ?_
    refine e_goto 128 dX12_goes_158 (by decide) ?_
    refine e_iload_n dX12_goes_128 rfl ?_
    refine e_iconst (nI (3)) dX12_goes_129 (by decide) ?_
    refine e_icmp_geN 161 dX12_goes_130 (by decide) (by omega) (by omega) (fun hcq130 => ?_) (fun hcq130 => absurd hcq130 (by decide))
    exact e_vret dX12_goes_161 rfl (hp _ ⟨σ, by unfold goR; rw [if_neg (by omega), ← hhv]; exact hR, hE, hF⟩)
