theorem s_givenE (D : En) {h : AH} {N : Nat → Int32} {σ : Nat → Nat → Int32} {τ : Nat → Int32} (hR : RefAt h N σ τ) (u : Nat) (hu : u < 3) (tx : List Nat) (hX : TXW N u tx) (a b c d : Int32) : Sp D 2 mX12_given [.ref 82, .int (nI u), .int a, .int b, .int c, .int d] h 0 0 (some (.int (givenR tx u a b c d))) (fun h' => ∃ σ', RefAt h' N σ' τ ∧ (∀ i, i ≠ 8 → σ' i = σ i) ∧ FrR h h') :=
  (s_given D hR u hu tx hX a b c d).weak (fun h' z => by obtain ⟨p, a, b⟩ := z; exact ⟨va_up σ 8 p, a, fun i hi => va_upN _ _ hi, b⟩)
theorem s_comE (D : En) {h : AH} {N : Nat → Int32} {σ : Nat → Nat → Int32} {τ : Nat → Int32} (hR : RefAt h N σ τ) {nv tc : Nat} (hvc : N 1 = nI nv) (hnv : nv ≤ 8) (htc : N 2 = nI tc) (htc10 : tc ≤ 10) (hT : ∀ t, t < tc → TW N t) : Sp D 4 mX12_findComforts [.ref 82] h 0 0 none (fun h' => ∃ σ', RefAt h' N σ' τ ∧ (∀ i, i ≠ 5 → σ' i = σ i) ∧ (∀ v, v < nv → σ' 5 v = comfR (σ 4) N nv tc v) ∧ FrR h h') :=
  (s_findComforts D hR hvc hnv htc htc10 hT).weak (fun h' z => by obtain ⟨c, a, b, e⟩ := z; exact ⟨va_up σ 5 c, a, fun i hi => va_upN _ _ hi, fun v hv => by rw [va_upS]; exact e v hv, b⟩)
/-- what a year needs of the row of numbers -/
def YW (N : Nat → Int32) (nv tc : Nat) (tx : Nat → List Nat) : Prop := N 1 = nI nv ∧ nv ≤ 8 ∧ N 2 = nI tc ∧ tc ≤ 10 ∧ (∀ t, t < tc → TW N t) ∧ ∀ u, u < 3 → TXW N u (tx u)
def FI (k : Nat) : Prop := k ≠ 1 ∧ k ≠ 2 ∧ k < 252 ∧ (k < 112 ∨ 182 ≤ k ∨ 2 ≤ (k - 112) % 7)
theorem TW_upd {N : Nat → Int32} {t k : Nat} {x : Int32} (hW : TW N t) (ht : t < 10) (hk : FI k) : TW (upd N k x) t := by
  obtain ⟨k1, k2, k3, k4⟩ := hk
  have e0 : upd N k x (112 + 7 * t + 0) = N (112 + 7 * t + 0) := pk_un (by omega)
  have e1 : upd N k x (112 + 7 * t + 1) = N (112 + 7 * t + 1) := pk_un (by omega)
  unfold TW kdN atN at *
  rw [e0, e1]
  exact hW
theorem kdN_upd {N : Nat → Int32} {t k : Nat} {x : Int32} (ht : t < 10) (hk : FI k) : kdN (upd N k x) t = kdN N t := by
  obtain ⟨k1, k2, k3, k4⟩ := hk
  unfold kdN
  rw [pk_un (by omega)]
theorem atN_upd {N : Nat → Int32} {t k : Nat} {x : Int32} (ht : t < 10) (hk : FI k) : atN (upd N k x) t = atN N t := by
  obtain ⟨k1, k2, k3, k4⟩ := hk
  unfold atN
  rw [pk_un (by omega)]
theorem YW_upd {N : Nat → Int32} {nv tc : Nat} {tx : Nat → List Nat} (hY : YW N nv tc tx) {k : Nat} {x : Int32} (hk : FI k) : YW (upd N k x) nv tc tx := by
  obtain ⟨h1, h2, h3, h4, h5, h6⟩ := hY
  refine ⟨by rw [pk_un (fun e => hk.1 e.symm)]; exact h1, h2, by rw [pk_un (fun e => hk.2.1 e.symm)]; exact h3, h4, fun t ht => TW_upd (h5 t ht) (by omega) hk, fun u hu => ?_⟩
  obtain ⟨g1, g2, g3, g4⟩ := h6 u hu
  have hk3 := hk.2.2.1
  exact ⟨g1, by rw [pk_un (by omega)]; exact g2, fun i hi => by rw [pk_un (by omega)]; exact g3 i hi, g4⟩
abbrev shC (N : Nat → Int32) (nv : Nat) (tx : List Nat) (t : Nat) : Prop := N (112 + 7 * t + 5) = nI 1 ∧ N (112 + 7 * t + 6) < N 0 ∧ ¬ givenR tx 0 (usersR N nv (kdN N t) (N (112 + 7 * t + 4)) (atN N t)) (N (112 + 7 * t + 3)) (N (112 + 7 * t + 2)) (N 0) = 0
def shW (N : Nat → Int32) (nv : Nat) (tx : List Nat) : Nat → (Nat → Int32)
  | 0 => N
  | t + 1 => if shC (shW N nv tx t) nv tx t then upd (shW N nv tx t) (112 + 7 * t + 5) (nI 0) else shW N nv tx t
theorem s_usersOf_ (D : En) {h : AH} {N : Nat → Int32} {σ : Nat → Nat → Int32} {τ : Nat → Int32} (hR : RefAt h N σ τ) {nv : Nat} (hvc : N 1 = nI nv) (hnv : nv ≤ 8) (t : Nat) (ht : t < 10) (hW : TW N t) : Sp D 4 mX12_usersOf_ [.ref (82), .int (nI (t))] h 0 0 (some (.int (usersR N nv (kdN N t) (N (112 + 7 * t + 4)) (atN N t)))) (fun h' => h' = h) := by
  intro post hp
  show Ev D 4 mX12_usersOf_ 0 [some (.ref (82)), some (.int (nI (t)))] [] h 0 0 post
  have hk9 := hW.2.1
  have ha9 := hW.2.2.2
  refine e_aload_n dX12_usersOf__0 rfl ?_
  refine e_aload_n dX12_usersOf__1 rfl ?_
  refine e_iload_n dX12_usersOf__2 rfl ?_
  refine e_iconst (nI (0)) dX12_usersOf__3 (by decide) ?_
  refine c_V2iR (N := mX12_thing) dX12_usersOf__4 lv_X12_136 mo_X12_thing hR.cn (Nat.le_of_ble_eq_true rfl) (Nat.le_of_ble_eq_true rfl) (by decide) (s_thing D hR (t) (0) (by omega) (by omega)) ?_
  refine e_top (nI (kdN N t)) (hW.1) ?_
  refine e_aload_n dX12_usersOf__7 rfl ?_
  refine e_iload_n dX12_usersOf__8 rfl ?_
  refine e_iconst (nI (4)) dX12_usersOf__9 (by decide) ?_
  refine c_V2iR (N := mX12_thing) dX12_usersOf__10 lv_X12_136 mo_X12_thing hR.cn (Nat.le_of_ble_eq_true rfl) (Nat.le_of_ble_eq_true rfl) (by decide) (s_thing D hR (t) (4) (by omega) (by omega)) ?_
  refine e_aload_n dX12_usersOf__13 rfl ?_
  refine e_iload_n dX12_usersOf__14 rfl ?_
  refine e_iconst (nI (1)) dX12_usersOf__15 (by decide) ?_
  refine c_V2iR (N := mX12_thing) dX12_usersOf__16 lv_X12_136 mo_X12_thing hR.cn (Nat.le_of_ble_eq_true rfl) (Nat.le_of_ble_eq_true rfl) (by decide) (s_thing D hR (t) (1) (by omega) (by omega)) ?_
  refine e_top (nI (atN N t)) (hW.2.2.1) ?_
  refine c_V3iR (N := mX12_usersOf) dX12_usersOf__19 lv_X12_146 mo_X12_usersOf hR.cn (Nat.le_of_ble_eq_true rfl) (Nat.le_of_ble_eq_true rfl) (by decide) (s_usersOf D hR hvc hnv (kdN N t) (by omega) ((N (112 + 7 * t + 4))) (atN N t) (by omega)) ?_
  exact e_iret dX12_usersOf__22 rfl (hp _ rfl)
theorem l_shuts (D : En) {N0 : Nat → Int32} {σ0 : Nat → Nat → Int32} {τ : Nat → Int32} {nv tc : Nat} {tx : Nat → List Nat} {h0 : AH} {post : Option Value → AH → Prop} (hp : ∀ h' σ', RefAt h' (shW N0 nv (tx 0) tc) σ' τ → (∀ i, i ≠ 8 → σ' i = σ0 i) → FrR h0 h' → post none h') : ∀ (n : Nat) (t : Nat) (h : AH) (N : Nat → Int32) (σ : Nat → Nat → Int32), (t + n = tc) → (RefAt h N σ τ) → (FrR h0 h) → (YW N nv tc tx) → (N = shW N0 nv (tx 0) t) → (∀ i, i ≠ 8 → σ i = σ0 i) → Ev D 5 mX12_shuts 2 [some (.ref (82)), some (.int (nI (t)))] [] h 0 0 post := by
  intro n
  induction n with
  | zero =>
    intro t h N σ hm hR hF hY hN hE
    have hnv := hY.2.1
    have htc10 := hY.2.2.2.1
    refine e_iload_n dX12_shuts_2 rfl ?_
    refine e_aload_n dX12_shuts_3 rfl ?_
    refine e_get dX12_shuts_4 fl_X12_9_12 hR.1 rfl ?_
    refine e_iconst (nI (2)) dX12_shuts_7 (by decide) ?_
    refine e_ild (2) (nI (tc)) dX12_shuts_8 hR.2.1 rfl (by omega) (by decide) hY.2.2.1 ?_
    refine e_icmp_geN 79 dX12_shuts_9 (by decide) (by omega) (by omega) (fun hcq9 => ?_) (fun hcq9 => absurd hcq9 (by omega))
    exact e_vret dX12_shuts_79 rfl (hp h σ (by rw [show tc = t by omega, ← hN]; exact hR) hE hF)
  | succ n ih =>
    intro t h N σ hm hR hF hY hN hE
    have hnv := hY.2.1
    have htc10 := hY.2.2.2.1
    refine e_iload_n dX12_shuts_2 rfl ?_
    refine e_aload_n dX12_shuts_3 rfl ?_
    refine e_get dX12_shuts_4 fl_X12_9_12 hR.1 rfl ?_
    refine e_iconst (nI (2)) dX12_shuts_7 (by decide) ?_
    refine e_ild (2) (nI (tc)) dX12_shuts_8 hR.2.1 rfl (by omega) (by decide) hY.2.2.1 ?_
    refine e_icmp_geN 79 dX12_shuts_9 (by decide) (by omega) (by omega) (fun hcq9 => absurd hcq9 (by omega)) (fun hcq9 => ?_)
    refine e_aload_n dX12_shuts_12 rfl ?_
    refine e_iload_n dX12_shuts_13 rfl ?_
    refine c_V1iR (N := mX12_isOpen) dX12_shuts_14 lv_X12_158 mo_X12_isOpen hR.cn (Nat.le_of_ble_eq_true rfl) (Nat.le_of_ble_eq_true rfl) (by decide) (s_isOpen D hR (t) (by omega)) ?_
    refine e_if_eqB 73 dX12_shuts_17 (by decide) (fun hcq17 => ?_) (fun hcq17 => ?_)
    · refine e_iincN (t + 1) dX12_shuts_73 rfl (by decide) (nI_add _ _) ?_
      refine e_goto 2 dX12_shuts_76 (by decide) ?_
      first
        | exact ih (t + 1) h N σ (by omega) hR hF hY (by rw [shW, ← hN, if_neg (fun z9 => hcq17 z9.1)]) hE
        | exact ih (t + 1) h N σ (by omega) hR hF hY (by rw [shW, ← hN, if_neg (fun z9 => Int32.not_lt.mpr hcq33 z9.2.1)]) hE
        | exact ih (t + 1) h N σ (by omega) hR hF hY (by rw [shW, ← hN, if_neg (fun z9 => z9.2.2 hcq64)]) hE
        | exact ih (t + 1) h _ σ (by omega) hR hF (YW_upd hY (by unfold FI; omega)) (by rw [shW, ← hN, if_pos (And.intro hcq17 (And.intro (Int32.not_le.mp hcq33) hcq64)), if_pos nI_0]) hE
    · refine e_aload_n dX12_shuts_20 rfl ?_
      refine e_iload_n dX12_shuts_21 rfl ?_
      refine e_bipush (nI (6)) dX12_shuts_22 (by decide) ?_
      refine c_V2iR (N := mX12_thing) dX12_shuts_24 lv_X12_136 mo_X12_thing hR.cn (Nat.le_of_ble_eq_true rfl) (Nat.le_of_ble_eq_true rfl) (by decide) (s_thing D hR (t) (6) (by omega) (by omega)) ?_
      refine e_aload_n dX12_shuts_27 rfl ?_
      refine e_get dX12_shuts_28 fl_X12_9_12 hR.1 rfl ?_
      refine e_iconst (nI (0)) dX12_shuts_31 (by decide) ?_
      refine e_ild (0) ((N (0))) dX12_shuts_32 hR.2.1 rfl (by omega) (by decide) rfl ?_
      refine e_icmp_ge 73 dX12_shuts_33 (by decide) (fun hcq33 => ?_) (fun hcq33 => ?_)
      · refine e_iincN (t + 1) dX12_shuts_73 rfl (by decide) (nI_add _ _) ?_
        refine e_goto 2 dX12_shuts_76 (by decide) ?_
        first
          | exact ih (t + 1) h N σ (by omega) hR hF hY (by rw [shW, ← hN, if_neg (fun z9 => hcq17 z9.1)]) hE
          | exact ih (t + 1) h N σ (by omega) hR hF hY (by rw [shW, ← hN, if_neg (fun z9 => Int32.not_lt.mpr hcq33 z9.2.1)]) hE
          | exact ih (t + 1) h N σ (by omega) hR hF hY (by rw [shW, ← hN, if_neg (fun z9 => z9.2.2 hcq64)]) hE
          | exact ih (t + 1) h _ σ (by omega) hR hF (YW_upd hY (by unfold FI; omega)) (by rw [shW, ← hN, if_pos (And.intro hcq17 (And.intro (Int32.not_le.mp hcq33) hcq64)), if_pos nI_0]) hE
      · refine e_aload_n dX12_shuts_36 rfl ?_
        refine e_iconst (nI (0)) dX12_shuts_37 (by decide) ?_
        refine e_aload_n dX12_shuts_38 rfl ?_
        refine e_iload_n dX12_shuts_39 rfl ?_
        refine c_V1iR (N := mX12_usersOf_) dX12_shuts_40 lv_X12_149 mo_X12_usersOf_ hR.cn (Nat.le_of_ble_eq_true rfl) (Nat.le_of_ble_eq_true rfl) (by decide) (s_usersOf_ D hR hY.1 hY.2.1 (t) (by omega) (hY.2.2.2.2.1 _ (by omega))) ?_
        refine e_aload_n dX12_shuts_43 rfl ?_
        refine e_iload_n dX12_shuts_44 rfl ?_
        refine e_iconst (nI (3)) dX12_shuts_45 (by decide) ?_
        refine c_V2iR (N := mX12_thing) dX12_shuts_46 lv_X12_136 mo_X12_thing hR.cn (Nat.le_of_ble_eq_true rfl) (Nat.le_of_ble_eq_true rfl) (by decide) (s_thing D hR (t) (3) (by omega) (by omega)) ?_
        refine e_aload_n dX12_shuts_49 rfl ?_
        refine e_iload_n dX12_shuts_50 rfl ?_
        refine e_iconst (nI (2)) dX12_shuts_51 (by decide) ?_
        refine c_V2iR (N := mX12_thing) dX12_shuts_52 lv_X12_136 mo_X12_thing hR.cn (Nat.le_of_ble_eq_true rfl) (Nat.le_of_ble_eq_true rfl) (by decide) (s_thing D hR (t) (2) (by omega) (by omega)) ?_
        refine e_aload_n dX12_shuts_55 rfl ?_
        refine e_get dX12_shuts_56 fl_X12_9_12 hR.1 rfl ?_
        refine e_iconst (nI (0)) dX12_shuts_59 (by decide) ?_
        refine e_ild (0) ((N (0))) dX12_shuts_60 hR.2.1 rfl (by omega) (by decide) rfl ?_
        refine c_V5i (N := mX12_given) dX12_shuts_61 lv_X12_243 mo_X12_given hR.cn (Nat.le_of_ble_eq_true rfl) (Nat.le_of_ble_eq_true rfl) (by decide) (s_givenE D hR (0) (by omega) (tx 0) (hY.2.2.2.2.2 _ (by omega)) _ _ _ _) (fun h hP => ?_)
        obtain ⟨σ, hR, hE1, hF1⟩ := hP
        have hF := hF.trans hF1
        have hE : ∀ i, i ≠ 8 → σ i = σ0 i := fun i z => (hE1 i z).trans (hE i z)
        refine e_if_eq 73 dX12_shuts_64 (by decide) (fun hcq64 => ?_) (fun hcq64 => ?_)
        · refine e_iincN (t + 1) dX12_shuts_73 rfl (by decide) (nI_add _ _) ?_
          refine e_goto 2 dX12_shuts_76 (by decide) ?_
          first
            | exact ih (t + 1) h N σ (by omega) hR hF hY (by rw [shW, ← hN, if_neg (fun z9 => hcq17 z9.1)]) hE
            | exact ih (t + 1) h N σ (by omega) hR hF hY (by rw [shW, ← hN, if_neg (fun z9 => Int32.not_lt.mpr hcq33 z9.2.1)]) hE
            | exact ih (t + 1) h N σ (by omega) hR hF hY (by rw [shW, ← hN, if_neg (fun z9 => z9.2.2 hcq64)]) hE
            | exact ih (t + 1) h _ σ (by omega) hR hF (YW_upd hY (by unfold FI; omega)) (by rw [shW, ← hN, if_pos (And.intro hcq17 (And.intro (Int32.not_le.mp hcq33) hcq64)), if_pos nI_0]) hE
        · refine e_aload_n dX12_shuts_67 rfl ?_
          refine e_iload_n dX12_shuts_68 rfl ?_
          refine e_iconst (nI (0)) dX12_shuts_69 (by decide) ?_
          refine c_V2v (N := mX12_opens) dX12_shuts_70 lv_X12_246 mo_X12_opens hR.cn (Nat.le_of_ble_eq_true rfl) (Nat.le_of_ble_eq_true rfl) (by decide) (s_opens D hR (t) (by omega) (nI (0))) (fun h hP => ?_)
          obtain ⟨hR, hF1⟩ := hP
          have hF := hF.trans hF1
          refine e_iincN (t + 1) dX12_shuts_73 rfl (by decide) (nI_add _ _) ?_
          refine e_goto 2 dX12_shuts_76 (by decide) ?_
          first
            | exact ih (t + 1) h N σ (by omega) hR hF hY (by rw [shW, ← hN, if_neg (fun z9 => hcq17 z9.1)]) hE
            | exact ih (t + 1) h N σ (by omega) hR hF hY (by rw [shW, ← hN, if_neg (fun z9 => Int32.not_lt.mpr hcq33 z9.2.1)]) hE
            | exact ih (t + 1) h N σ (by omega) hR hF hY (by rw [shW, ← hN, if_neg (fun z9 => z9.2.2 hcq64)]) hE
            | exact ih (t + 1) h _ σ (by omega) hR hF (YW_upd hY (by unfold FI; omega)) (by rw [shW, ← hN, if_pos (And.intro hcq17 (And.intro (Int32.not_le.mp hcq33) hcq64)), if_pos nI_0]) hE
theorem s_shuts (D : En) {h : AH} {N : Nat → Int32} {σ : Nat → Nat → Int32} {τ : Nat → Int32} (hR : RefAt h N σ τ) {nv tc : Nat} {tx : Nat → List Nat} (hY : YW N nv tc tx) : Sp D 5 mX12_shuts [.ref (82)] h 0 0 (none) (fun h' => ∃ σ', RefAt h' (shW N nv (tx 0) tc) σ' τ ∧ (∀ i, i ≠ 8 → σ' i = σ i) ∧ FrR h h') := by
  intro post hp
  show Ev D 5 mX12_shuts 0 [some (.ref (82)), none] [] h 0 0 post
  refine e_iconst (nI (0)) dX12_shuts_0 (by decide) ?_
  refine e_istore_n dX12_shuts_1 (by decide) ?_
  exact l_shuts D (h0 := h) (fun h' σ' a b e => hp h' ⟨σ', a, b, e⟩) tc 0 h N σ (by omega) hR FrR.rf hY rfl (fun _ _ => rfl)
theorem shW_YW {N : Nat → Int32} {nv tc : Nat} {tx : Nat → List Nat} (hY : YW N nv tc tx) (t : Nat) (ht : t ≤ tc) : YW (shW N nv (tx 0) t) nv tc tx := by
  induction t with
  | zero => exact hY
  | succ t ih =>
    have h1 := ih (by omega)
    have h2 := hY.2.2.2.1
    rw [shW]
    split
    · exact YW_upd h1 (by unfold FI; omega)
    · exact h1
def lv1 (N : Nat → Int32) (v : Nat) : Nat → Int32 := upd N (16 + 4 * v + 1 + 0) (chg (N (16 + 4 * v + 1 + 0)) (N (16 + 4 * v + 1 + 1) * N 7 / nI 100 - N (16 + 4 * v + 1 + 0) * N 8 / nI 100).toInt64)
def lv2 (N : Nat → Int32) (v : Nat) : Nat → Int32 := upd (lv1 N v) (16 + 4 * v + 1 + 1) (chg (lv1 N v (16 + 4 * v + 1 + 1)) (N (16 + 4 * v + 1 + 0) * N 8 / nI 100 - N (16 + 4 * v + 1 + 1) * N 9 / nI 100).toInt64)
def lvW (N : Nat → Int32) (v : Nat) : Nat → Int32 := upd (lv2 N v) (16 + 4 * v + 1 + 2) (chg (lv2 N v (16 + 4 * v + 1 + 2)) (N (16 + 4 * v + 1 + 1) * N 9 / nI 100 - lv2 N v (16 + 4 * v + 1 + 2) * lv2 N v 10 / nI 100).toInt64)
theorem s_livesOn (D : En) {h : AH} {N : Nat → Int32} {σ : Nat → Nat → Int32} {τ : Nat → Int32} (hR : RefAt h N σ τ) (v : Nat) (hv : v < 8) : Sp D 2 mX12_livesOn [.ref (82), .int (nI (v))] h 0 0 (none) (fun h' => RefAt h' (lvW N v) σ τ ∧ FrR h h') := by
  intro post hp
  show Ev D 2 mX12_livesOn 0 [some (.ref (82)), some (.int (nI (v))), none, none, none, none, none] [] h 0 0 post
  have hF : FrR h h := FrR.rf
  refine e_aload_n dX12_livesOn_0 rfl ?_
  refine e_iload_n dX12_livesOn_1 rfl ?_
  refine e_iconst (nI (0)) dX12_livesOn_2 (by decide) ?_
  refine c_V2iR (N := mX12_of) dX12_livesOn_3 lv_X12_99 mo_X12_of hR.cn (Nat.le_of_ble_eq_true rfl) (Nat.le_of_ble_eq_true rfl) (by decide) (s_of D hR (v) (0) (by omega) (by omega)) ?_
  refine e_istore_n dX12_livesOn_6 (by decide) ?_
  refine e_aload_n dX12_livesOn_7 rfl ?_
  refine e_iload_n dX12_livesOn_8 rfl ?_
  refine e_iconst (nI (1)) dX12_livesOn_9 (by decide) ?_
  refine c_V2iR (N := mX12_of) dX12_livesOn_10 lv_X12_99 mo_X12_of hR.cn (Nat.le_of_ble_eq_true rfl) (Nat.le_of_ble_eq_true rfl) (by decide) (s_of D hR (v) (1) (by omega) (by omega)) ?_
  refine e_istore_n dX12_livesOn_13 (by decide) ?_
  refine e_iload_n dX12_livesOn_14 rfl ?_
  refine e_aload_n dX12_livesOn_15 rfl ?_
  refine e_get dX12_livesOn_16 fl_X12_9_12 hR.1 rfl ?_
  refine e_bipush (nI (7)) dX12_livesOn_19 (by decide) ?_
  refine e_ild (7) ((N (7))) dX12_livesOn_21 hR.2.1 rfl (by omega) (by decide) rfl ?_
  refine e_imul dX12_livesOn_22 ?_
  refine e_bipush (nI (100)) dX12_livesOn_23 (by decide) ?_
  refine e_idiv dX12_livesOn_25 (by decide) ?_
  refine e_istore dX12_livesOn_26 (by decide) ?_
  refine e_iload_n dX12_livesOn_28 rfl ?_
  refine e_aload_n dX12_livesOn_29 rfl ?_
  refine e_get dX12_livesOn_30 fl_X12_9_12 hR.1 rfl ?_
  refine e_bipush (nI (8)) dX12_livesOn_33 (by decide) ?_
  refine e_ild (8) ((N (8))) dX12_livesOn_35 hR.2.1 rfl (by omega) (by decide) rfl ?_
  refine e_imul dX12_livesOn_36 ?_
  refine e_bipush (nI (100)) dX12_livesOn_37 (by decide) ?_
  refine e_idiv dX12_livesOn_39 (by decide) ?_
  refine e_istore dX12_livesOn_40 (by decide) ?_
  refine e_iload_n dX12_livesOn_42 rfl ?_
  refine e_aload_n dX12_livesOn_43 rfl ?_
  refine e_get dX12_livesOn_44 fl_X12_9_12 hR.1 rfl ?_
  refine e_bipush (nI (9)) dX12_livesOn_47 (by decide) ?_
  refine e_ild (9) ((N (9))) dX12_livesOn_49 hR.2.1 rfl (by omega) (by decide) rfl ?_
  refine e_imul dX12_livesOn_50 ?_
  refine e_bipush (nI (100)) dX12_livesOn_51 (by decide) ?_
  refine e_idiv dX12_livesOn_53 (by decide) ?_
  refine e_istore dX12_livesOn_54 (by decide) ?_
  refine e_aload_n dX12_livesOn_56 rfl ?_
  refine e_iload_n dX12_livesOn_57 rfl ?_
  refine e_iconst (nI (0)) dX12_livesOn_58 (by decide) ?_
  refine e_iload dX12_livesOn_59 rfl ?_
  refine e_iload dX12_livesOn_61 rfl ?_
  refine e_isub dX12_livesOn_63 ?_
  refine e_i2l dX12_livesOn_64 ?_
  refine c_V3v (N := mX12_change) dX12_livesOn_65 lv_X12_257 mo_X12_change hR.cn (Nat.le_of_ble_eq_true rfl) (Nat.le_of_ble_eq_true rfl) (by decide) (s_change D hR (v) (0) (by omega) (by omega) _) (fun h hP => ?_)
  obtain ⟨hR, hF1⟩ := hP
  have hF := hF.trans hF1
  have hR : RefAt h (lv1 N v) σ τ := hR
  refine e_aload_n dX12_livesOn_68 rfl ?_
  refine e_iload_n dX12_livesOn_69 rfl ?_
  refine e_iconst (nI (1)) dX12_livesOn_70 (by decide) ?_
  refine e_iload dX12_livesOn_71 rfl ?_
  refine e_iload dX12_livesOn_73 rfl ?_
  refine e_isub dX12_livesOn_75 ?_
  refine e_i2l dX12_livesOn_76 ?_
  refine c_V3v (N := mX12_change) dX12_livesOn_77 lv_X12_257 mo_X12_change hR.cn (Nat.le_of_ble_eq_true rfl) (Nat.le_of_ble_eq_true rfl) (by decide) (s_change D hR (v) (1) (by omega) (by omega) _) (fun h hP => ?_)
  obtain ⟨hR, hF1⟩ := hP
  have hF := hF.trans hF1
  have hR : RefAt h (lv2 N v) σ τ := hR
  refine e_aload_n dX12_livesOn_80 rfl ?_
  refine e_iload_n dX12_livesOn_81 rfl ?_
  refine e_iconst (nI (2)) dX12_livesOn_82 (by decide) ?_
  refine e_iload dX12_livesOn_83 rfl ?_
  refine e_aload_n dX12_livesOn_85 rfl ?_
  refine e_iload_n dX12_livesOn_86 rfl ?_
  refine e_iconst (nI (2)) dX12_livesOn_87 (by decide) ?_
  refine c_V2iR (N := mX12_of) dX12_livesOn_88 lv_X12_99 mo_X12_of hR.cn (Nat.le_of_ble_eq_true rfl) (Nat.le_of_ble_eq_true rfl) (by decide) (s_of D hR (v) (2) (by omega) (by omega)) ?_
  refine e_aload_n dX12_livesOn_91 rfl ?_
  refine e_get dX12_livesOn_92 fl_X12_9_12 hR.1 rfl ?_
  refine e_bipush (nI (10)) dX12_livesOn_95 (by decide) ?_
  refine e_ild (10) (((lv2 N v) (10))) dX12_livesOn_97 hR.2.1 rfl (by omega) (by decide) rfl ?_
  refine e_imul dX12_livesOn_98 ?_
  refine e_bipush (nI (100)) dX12_livesOn_99 (by decide) ?_
  refine e_idiv dX12_livesOn_101 (by decide) ?_
  refine e_isub dX12_livesOn_102 ?_
  refine e_i2l dX12_livesOn_103 ?_
  refine c_V3v (N := mX12_change) dX12_livesOn_104 lv_X12_257 mo_X12_change hR.cn (Nat.le_of_ble_eq_true rfl) (Nat.le_of_ble_eq_true rfl) (by decide) (s_change D hR (v) (2) (by omega) (by omega) _) (fun h hP => ?_)
  obtain ⟨hR, hF1⟩ := hP
  have hF := hF.trans hF1
  have hR : RefAt h (lvW N v) σ τ := hR
  exact e_vret dX12_livesOn_107 rfl (hp _ ⟨hR, hF⟩)
