set_option maxRecDepth 20000 in
theorem s_finding (D : En) {h : AH} {N : Nat → Int32} {σ : Nat → Nat → Int32} {τ : Nat → Int32} (hR : RefAt h N σ τ) (k : Nat) (hk : k < 6) (x : Int32) (hx : (-1000000000) - x = nI k) : Sp D 0 mX12_finding [.ref (82), .int (x)] h 0 0 (some (.int (x))) (fun h' => RefAt h' N (va_up σ 3 (upd (σ 3) k (σ 3 k + nI 1))) τ ∧ FrR h h') := by
  intro post hp
  show Ev D 0 mX12_finding 0 [some (.ref (82)), some (.int (x))] [] h 0 0 post
  have hF : FrR h h := FrR.rf
  refine e_aload_n dX12_finding_0 rfl ?_
  refine e_get dX12_finding_1 fl_X12_19_12 hR.1 rfl ?_
  refine e_ldc dX12_finding_4 w_1299 ?_
  refine e_iload_n dX12_finding_6 rfl ?_
  refine e_isub dX12_finding_7 ?_
  refine e_dup2 dX12_finding_8 rfl rfl ?_
  refine e_ild (k) ((σ 3 (k))) dX12_finding_9 (hR.2.2.1 3 (by decide) (by decide) (by decide)) hx (by show _ < 6; omega) (by decide) rfl ?_
  refine e_iconst (nI (1)) dX12_finding_10 (by decide) ?_
  refine e_iadd dX12_finding_11 ?_
  refine r_st 3 (k) dX12_finding_12 hR hF rfl (by decide) hx (by show _ < 6; omega) (fun h hR hF => ?_)
  refine e_iload_n dX12_finding_13 rfl ?_
  exact e_iret dX12_finding_14 rfl (hp _ ⟨hR, hF⟩)
theorem coW_YW {N : Nat → Int32} {nv tc : Nat} {tx : Nat → List Nat} (hY : YW N nv tc tx) (u : List Nat) (C : Nat → Int32) (v : Nat) (hv8 : v ≤ 8) : YW (coW u C N v) nv tc tx := by
  induction v with
  | zero => exact hY
  | succ v ih => exact YW_upd (ih (by omega)) (FI_pe (by omega) (by decide))
theorem lvs_YW {N : Nat → Int32} {nv tc : Nat} {tx : Nat → List Nat} (hY : YW N nv tc tx) (v : Nat) (hv8 : v ≤ 8) : YW (lvs N v) nv tc tx := by
  induction v with
  | zero => exact hY
  | succ v ih => exact lvW_YW (ih (by omega)) (by omega)
theorem cstW_YW {N : Nat → Int32} {nv tc : Nat} {tx : Nat → List Nat} (hY : YW N nv tc tx) (t : Nat) : YW (cstW N t) nv tc tx := by
  induction t with
  | zero => exact YW_upd hY FI_12
  | succ t ih => exact YW_upd ih FI_12
theorem yearR_YW {N : Nat → Int32} {nv tc : Nat} {tx : Nat → List Nat} (G : Nat → Int32) (hY : YW N nv tc tx) : YW (yearR G N nv tc tx) nv tc tx := YW_upd (cstW_YW (lvs_YW (coW_YW (goR_YW (shW_YW hY tc (Nat.le_refl _)) _ _) _ _ nv hY.2.1) nv hY.2.1) tc) FI_0
def yrsR (G N : Nat → Int32) (nv tc : Nat) (tx : Nat → List Nat) : Nat → (Nat → Int32)
  | 0 => N
  | k + 1 => yearR G (yrsR G N nv tc tx k) nv tc tx
theorem yrsR_YW {N : Nat → Int32} {nv tc : Nat} {tx : Nat → List Nat} (G : Nat → Int32) (hY : YW N nv tc tx) (k : Nat) : YW (yrsR G N nv tc tx k) nv tc tx := by
  induction k with
  | zero => exact hY
  | succ k ih => exact yearR_YW G ih
set_option maxRecDepth 20000 in
theorem l_ahead (D : En) {N0 : Nat → Int32} {σ0 : Nat → Nat → Int32} {τ : Nat → Int32} {nv tc : Nat} {tx : Nat → List Nat} (G : Nat → Int32) (ny : Nat) (hny : ny ≤ 100) {h0 : AH} {post : Option Value → AH → Prop} (hp : ∀ h' σ', RefAt h' (yrsR G N0 nv tc tx ny) σ' τ → (∀ i, i ≠ 5 → i ≠ 8 → i ≠ 11 → σ' i = σ0 i) → FrR h0 h' → post (some (.int (sumF (allR (yrsR G N0 nv tc tx ny)) nv))) h') : ∀ (n : Nat) (k : Nat) (h : AH) (N : Nat → Int32) (σ : Nat → Nat → Int32), (k + n = ny) → (RefAt h N σ τ) → (FrR h0 h) → (YW N nv tc tx) → (N = yrsR G N0 nv tc tx k) → (∀ i, i ≠ 5 → i ≠ 8 → i ≠ 11 → σ i = σ0 i) → (σ 4 = G) → Ev D 8 mX12_ahead 2 [some (.ref (82)), some (.int (nI (ny))), some (.int (nI (k)))] [] h 0 0 post := by
  intro n
  induction n with
  | zero =>
    intro k h N σ hm hR hF hY hN hE hG
    obtain rfl : ny = k := by omega
    refine e_iload_n dX12_ahead_2 rfl ?_
    refine e_iload_n dX12_ahead_3 rfl ?_
    refine e_icmp_geN 17 dX12_ahead_4 (by decide) (by omega) (by omega) (fun hcq4 => ?_) (fun hcq4 => absurd hcq4 (by omega))
    refine e_aload_n dX12_ahead_17 rfl ?_
    refine c_V0iR (N := mX12_people_) dX12_ahead_18 lv_X12_274 mo_X12_people_ hR.cn (Nat.le_of_ble_eq_true rfl) (Nat.le_of_ble_eq_true rfl) (by decide) (s_people_ D hR hY.1 hY.2.1) ?_
    exact e_iret dX12_ahead_21 rfl (by have e9 := hp h σ (by rw [← hN]; exact hR) hE hF; rw [← hN] at e9; exact e9)
  | succ n ih =>
    intro k h N σ hm hR hF hY hN hE hG
    refine e_iload_n dX12_ahead_2 rfl ?_
    refine e_iload_n dX12_ahead_3 rfl ?_
    refine e_icmp_geN 17 dX12_ahead_4 (by decide) (by omega) (by omega) (fun hcq4 => absurd hcq4 (by omega)) (fun hcq4 => ?_)
    refine e_aload_n dX12_ahead_7 rfl ?_
    refine c_V0v (N := mX12_year) dX12_ahead_8 lv_X12_271 mo_X12_year hR.cn (Nat.le_of_ble_eq_true rfl) (Nat.le_of_ble_eq_true rfl) (by decide) (s_year D hR hY) (fun h hP => ?_)
    obtain ⟨σ1, hR, hE1, hF1⟩ := hP
    have hF := hF.trans hF1
    rw [hG] at hR
    have hE : ∀ i, i ≠ 5 → i ≠ 8 → i ≠ 11 → σ1 i = σ0 i := fun i z0 z1 z2 => (hE1 i z0 z1 z2).trans (hE i z0 z1 z2)
    have hG : σ1 4 = G := by rw [hE1 4 (by decide) (by decide) (by decide)]; exact hG
    refine e_iincN (k + 1) dX12_ahead_11 rfl (by decide) (nI_add _ _) ?_
    refine e_goto 2 dX12_ahead_14 (by decide) ?_
    exact ih (k + 1) h _ σ1 (by omega) hR hF (yearR_YW G hY) (by rw [yrsR, ← hN]) hE hG
set_option maxRecDepth 20000 in
theorem s_ahead (D : En) {h : AH} {N : Nat → Int32} {σ : Nat → Nat → Int32} {τ : Nat → Int32} (hR : RefAt h N σ τ) {nv tc : Nat} {tx : Nat → List Nat} (hY : YW N nv tc tx) (ny : Nat) (hny : ny ≤ 100) : Sp D 8 mX12_ahead [.ref (82), .int (nI (ny))] h 0 0 (some (.int (sumF (allR (yrsR (σ 4) N nv tc tx ny)) nv))) (fun h' => ∃ σ', RefAt h' (yrsR (σ 4) N nv tc tx ny) σ' τ ∧ (∀ i, i ≠ 5 → i ≠ 8 → i ≠ 11 → σ' i = σ i) ∧ FrR h h') := by
  intro post hp
  show Ev D 8 mX12_ahead 0 [some (.ref (82)), some (.int (nI (ny))), none] [] h 0 0 post
  refine e_iconst (nI (0)) dX12_ahead_0 (by decide) ?_
  refine e_istore_n dX12_ahead_1 (by decide) ?_
  exact l_ahead D (σ 4) ny hny (h0 := h) (fun h' σ' a b e => hp h' ⟨σ', a, b, e⟩) ny 0 h N σ (by omega) hR FrR.rf hY rfl (fun _ _ _ _ => rfl) rfl
theorem s_copyNA (D : En) {h : AH} {N : Nat → Int32} {σ : Nat → Nat → Int32} {τ : Nat → Int32} (hR : RefAt h N σ τ) : Sp D 0 mX12_copy [.ref 83, .ref 85] h 0 0 none (fun h' => RefAt h' N (va_up σ 2 N) τ ∧ FrR h h') :=
  (s_copy D (by decide) (by decide) hR.2.1 (hR.2.2.1 2 (by decide) (by decide) (by decide))).weak (fun h' e => by rw [e]; exact ⟨hR.st 2 N (by decide) (by decide) (by decide), FrR.rf.set _ (by decide) (by decide)⟩)
theorem s_copyAN (D : En) {h : AH} {N : Nat → Int32} {σ : Nat → Nat → Int32} {τ : Nat → Int32} (hR : RefAt h N σ τ) : Sp D 0 mX12_copy [.ref 85, .ref 83] h 0 0 none (fun h' => RefAt h' (σ 2) σ τ ∧ FrR h h') :=
  (s_copy D (by decide) (by decide) (hR.2.2.1 2 (by decide) (by decide) (by decide)) hR.2.1).weak (fun h' e => by rw [e]; exact ⟨hR.stN _, FrR.rf.set _ (by decide) (by decide)⟩)
theorem s_copyNK (D : En) {h : AH} {N : Nat → Int32} {σ : Nat → Nat → Int32} {τ : Nat → Int32} (hR : RefAt h N σ τ) : Sp D 0 mX12_copy [.ref 83, .ref 84] h 0 0 none (fun h' => RefAt h' N (va_up σ 1 N) τ ∧ FrR h h') :=
  (s_copy D (by decide) (by decide) hR.2.1 (hR.2.2.1 1 (by decide) (by decide) (by decide))).weak (fun h' e => by rw [e]; exact ⟨hR.st 1 N (by decide) (by decide) (by decide), FrR.rf.set _ (by decide) (by decide)⟩)
theorem s_copyKN (D : En) {h : AH} {N : Nat → Int32} {σ : Nat → Nat → Int32} {τ : Nat → Int32} (hR : RefAt h N σ τ) : Sp D 0 mX12_copy [.ref 84, .ref 83] h 0 0 none (fun h' => RefAt h' (σ 1) σ τ ∧ FrR h h') :=
  (s_copy D (by decide) (by decide) (hR.2.2.1 1 (by decide) (by decide) (by decide)) hR.2.1).weak (fun h' e => by rw [e]; exact ⟨hR.stN _, FrR.rf.set _ (by decide) (by decide)⟩)
set_option maxRecDepth 20000 in
theorem s_back (D : En) {h : AH} {N : Nat → Int32} {σ : Nat → Nat → Int32} {τ : Nat → Int32} (hR : RefAt h N σ τ) (x : Int32) : Sp D 1 mX12_back [.ref (82), .int (x)] h 0 0 (some (.int (x))) (fun h' => RefAt h' (σ 2) σ τ ∧ FrR h h') := by
  intro post hp
  show Ev D 1 mX12_back 0 [some (.ref (82)), some (.int (x))] [] h 0 0 post
  have hF : FrR h h := FrR.rf
  refine e_aload_n dX12_back_0 rfl ?_
  refine e_get dX12_back_1 fl_X12_16_12 hR.1 rfl ?_
  refine e_aload_n dX12_back_4 rfl ?_
  refine e_get dX12_back_5 fl_X12_9_12 hR.1 rfl ?_
  refine c_S2v (N := mX12_copy) dX12_back_8 ls_X12_277 mo_X12_copy  (Nat.le_of_ble_eq_true rfl) (Nat.le_of_ble_eq_true rfl) (by decide) (s_copyAN D hR) (fun h hP => ?_)
  obtain ⟨hR, hF1⟩ := hP
  have hF := hF.trans hF1
  refine e_iload_n dX12_back_11 rfl ?_
  exact e_iret dX12_back_12 rfl (hp _ ⟨hR, hF⟩)
