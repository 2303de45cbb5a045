theorem s_within (D : En) {h : AH} (x lo hi : Int32) : Sp D 0 mX12_within [.int (x), .int (lo), .int (hi)] h 0 0 (some (.int (b2 (lo ≤ x ∧ x ≤ hi)))) (fun h' => h' = h) := by
  intro post hp
  show Ev D 0 mX12_within 0 [some (.int (x)), some (.int (lo)), some (.int (hi))] [] h 0 0 post
  refine e_iload_n dX12_within_0 rfl ?_
  refine e_iload_n dX12_within_1 rfl ?_
  refine e_icmp_lt 14 dX12_within_2 (by decide) (fun hcq2 => ?_) (fun hcq2 => ?_)
  · refine e_iconst (nI (0)) dX12_within_14 (by decide) ?_
    exact e_zret dX12_within_15 rfl (by decide) (by first | (rw [show nI 1 = b2 (lo ≤ x ∧ x ≤ hi) from (b2_t ⟨Int32.not_lt.mp hcq2, Int32.not_lt.mp hcq7⟩).symm]; exact hp _ rfl) | (rw [show nI 0 = b2 (lo ≤ x ∧ x ≤ hi) from (b2_f (fun q => Int32.not_lt.mpr q.1 hcq2)).symm]; exact hp _ rfl) | (rw [show nI 0 = b2 (lo ≤ x ∧ x ≤ hi) from (b2_f (fun q => Int32.not_lt.mpr q.2 hcq7)).symm]; exact hp _ rfl))
  · refine e_iload_n dX12_within_5 rfl ?_
    refine e_iload_n dX12_within_6 rfl ?_
    refine e_icmp_gt 14 dX12_within_7 (by decide) (fun hcq7 => ?_) (fun hcq7 => ?_)
    · refine e_iconst (nI (0)) dX12_within_14 (by decide) ?_
      exact e_zret dX12_within_15 rfl (by decide) (by first | (rw [show nI 1 = b2 (lo ≤ x ∧ x ≤ hi) from (b2_t ⟨Int32.not_lt.mp hcq2, Int32.not_lt.mp hcq7⟩).symm]; exact hp _ rfl) | (rw [show nI 0 = b2 (lo ≤ x ∧ x ≤ hi) from (b2_f (fun q => Int32.not_lt.mpr q.1 hcq2)).symm]; exact hp _ rfl) | (rw [show nI 0 = b2 (lo ≤ x ∧ x ≤ hi) from (b2_f (fun q => Int32.not_lt.mpr q.2 hcq7)).symm]; exact hp _ rfl))
    · refine e_iconst (nI (1)) dX12_within_10 (by decide) ?_
      refine e_goto 15 dX12_within_11 (by decide) ?_
      exact e_zret dX12_within_15 rfl (by decide) (by first | (rw [show nI 1 = b2 (lo ≤ x ∧ x ≤ hi) from (b2_t ⟨Int32.not_lt.mp hcq2, Int32.not_lt.mp hcq7⟩).symm]; exact hp _ rfl) | (rw [show nI 0 = b2 (lo ≤ x ∧ x ≤ hi) from (b2_f (fun q => Int32.not_lt.mpr q.1 hcq2)).symm]; exact hp _ rfl) | (rw [show nI 0 = b2 (lo ≤ x ∧ x ≤ hi) from (b2_f (fun q => Int32.not_lt.mpr q.2 hcq7)).symm]; exact hp _ rfl))
theorem s_of (D : En) {h : AH} {N : Nat → Int32} {σ : Nat → Nat → Int32} {τ : Nat → Int32} (hR : RefAt h N σ τ) (v s : Nat) (hv : v < 8) (hs : s < 3) : Sp D 0 mX12_of [.ref (82), .int (nI (v)), .int (nI (s))] h 0 0 (some (.int (N (16 + 4 * v + 1 + s)))) (fun h' => h' = h) := by
  intro post hp
  show Ev D 0 mX12_of 0 [some (.ref (82)), some (.int (nI (v))), some (.int (nI (s)))] [] h 0 0 post
  refine e_aload_n dX12_of_0 rfl ?_
  refine e_get dX12_of_1 fl_X12_9_12 hR.1 rfl ?_
  refine e_bipush (nI (16)) dX12_of_4 (by decide) ?_
  refine e_iconst (nI (4)) dX12_of_6 (by decide) ?_
  refine e_iload_n dX12_of_7 rfl ?_
  refine e_imulN dX12_of_8 ?_
  refine e_iaddN dX12_of_9 ?_
  refine e_iconst (nI (1)) dX12_of_10 (by decide) ?_
  refine e_iaddN dX12_of_11 ?_
  refine e_iload_n dX12_of_12 rfl ?_
  refine e_iaddN dX12_of_13 ?_
  refine e_ild (((16 + (4 * v)) + 1) + s) ((N (((16 + (4 * v)) + 1) + s))) dX12_of_14 hR.2.1 rfl (by omega) (by decide) rfl ?_
  exact e_iret dX12_of_15 rfl (hp _ rfl)
theorem s_placeOf (D : En) {h : AH} {N : Nat → Int32} {σ : Nat → Nat → Int32} {τ : Nat → Int32} (hR : RefAt h N σ τ) (v : Nat) (hv : v < 8) : Sp D 0 mX12_placeOf [.ref (82), .int (nI (v))] h 0 0 (some (.int (N (16 + 4 * v)))) (fun h' => h' = h) := by
  intro post hp
  show Ev D 0 mX12_placeOf 0 [some (.ref (82)), some (.int (nI (v)))] [] h 0 0 post
  refine e_aload_n dX12_placeOf_0 rfl ?_
  refine e_get dX12_placeOf_1 fl_X12_9_12 hR.1 rfl ?_
  refine e_bipush (nI (16)) dX12_placeOf_4 (by decide) ?_
  refine e_iconst (nI (4)) dX12_placeOf_6 (by decide) ?_
  refine e_iload_n dX12_placeOf_7 rfl ?_
  refine e_imulN dX12_placeOf_8 ?_
  refine e_iaddN dX12_placeOf_9 ?_
  refine e_ild (16 + (4 * v)) ((N (16 + (4 * v)))) dX12_placeOf_10 hR.2.1 rfl (by omega) (by decide) rfl ?_
  exact e_iret dX12_placeOf_11 rfl (hp _ rfl)
def allR (N : Nat → Int32) (v : Nat) : Int32 := N (16 + 4 * v + 1 + 0) + N (16 + 4 * v + 1 + 1) + N (16 + 4 * v + 1 + 2)
theorem s_allOf (D : En) {h : AH} {N : Nat → Int32} {σ : Nat → Nat → Int32} {τ : Nat → Int32} (hR : RefAt h N σ τ) (v : Nat) (hv : v < 8) : Sp D 1 mX12_allOf [.ref (82), .int (nI (v))] h 0 0 (some (.int (allR N v))) (fun h' => h' = h) := by
  intro post hp
  show Ev D 1 mX12_allOf 0 [some (.ref (82)), some (.int (nI (v)))] [] h 0 0 post
  refine e_aload_n dX12_allOf_0 rfl ?_
  refine e_iload_n dX12_allOf_1 rfl ?_
  refine e_iconst (nI (0)) dX12_allOf_2 (by decide) ?_
  refine c_V2iR (N := mX12_of) dX12_allOf_3 lv_X12_99 mo_X12_of hR.cn (Nat.le_of_ble_eq_true rfl) (Nat.le_of_ble_eq_true rfl) (by decide) (s_of D hR (v) (0) (by omega) (by omega)) ?_
  refine e_aload_n dX12_allOf_6 rfl ?_
  refine e_iload_n dX12_allOf_7 rfl ?_
  refine e_iconst (nI (1)) dX12_allOf_8 (by decide) ?_
  refine c_V2iR (N := mX12_of) dX12_allOf_9 lv_X12_99 mo_X12_of hR.cn (Nat.le_of_ble_eq_true rfl) (Nat.le_of_ble_eq_true rfl) (by decide) (s_of D hR (v) (1) (by omega) (by omega)) ?_
  refine e_iadd dX12_allOf_12 ?_
  refine e_aload_n dX12_allOf_13 rfl ?_
  refine e_iload_n dX12_allOf_14 rfl ?_
  refine e_iconst (nI (2)) dX12_allOf_15 (by decide) ?_
  refine c_V2iR (N := mX12_of) dX12_allOf_16 lv_X12_99 mo_X12_of hR.cn (Nat.le_of_ble_eq_true rfl) (Nat.le_of_ble_eq_true rfl) (by decide) (s_of D hR (v) (2) (by omega) (by omega)) ?_
  refine e_iadd dX12_allOf_19 ?_
  exact e_iret dX12_allOf_20 rfl (hp _ rfl)
def setR (N : Nat → Int32) (v : Nat) (p y g o : Int32) : Nat → Int32 := upd (upd (upd (upd (upd N (16 + 4 * v) p) (16 + 4 * v + 1) y) (16 + 4 * v + 2) g) (16 + 4 * v + 3) o) 1 (nI (v + 1))
theorem s_settles (D : En) {h : AH} {N : Nat → Int32} {σ : Nat → Nat → Int32} {τ : Nat → Int32} (hR : RefAt h N σ τ) (v : Nat) (hv : v < 8) (hN : N 1 = nI v) (p y g o : Int32) : Sp D 0 mX12_settles [.ref (82), .int (p), .int (y), .int (g), .int (o)] h 0 0 (none) (fun h' => RefAt h' (setR N v p y g o) σ τ ∧ FrR h h') := by
  intro post hp
  show Ev D 0 mX12_settles 0 [some (.ref (82)), some (.int (p)), some (.int (y)), some (.int (g)), some (.int (o)), none] [] h 0 0 post
  have hF : FrR h h := FrR.rf
  refine e_bipush (nI (16)) dX12_settles_0 (by decide) ?_
  refine e_iconst (nI (4)) dX12_settles_2 (by decide) ?_
  refine e_aload_n dX12_settles_3 rfl ?_
  refine e_get dX12_settles_4 fl_X12_9_12 hR.1 rfl ?_
  refine e_iconst (nI (1)) dX12_settles_7 (by decide) ?_
  refine e_ild (1) (nI (v)) dX12_settles_8 hR.2.1 rfl (by omega) (by decide) hN ?_
  refine e_imulN dX12_settles_9 ?_
  refine e_iaddN dX12_settles_10 ?_
  refine e_istore dX12_settles_11 (by decide) ?_
  refine e_aload_n dX12_settles_13 rfl ?_
  refine e_get dX12_settles_14 fl_X12_9_12 hR.1 rfl ?_
  refine e_iload dX12_settles_17 rfl ?_
  refine e_iload_n dX12_settles_19 rfl ?_
  refine r_stN (16 + (4 * v)) dX12_settles_20 hR hF rfl (by omega) (fun h hR hF => ?_)
  refine e_aload_n dX12_settles_21 rfl ?_
  refine e_get dX12_settles_22 fl_X12_9_12 hR.1 rfl ?_
  refine e_iload dX12_settles_25 rfl ?_
  refine e_iconst (nI (1)) dX12_settles_27 (by decide) ?_
  refine e_iaddN dX12_settles_28 ?_
  refine e_iload_n dX12_settles_29 rfl ?_
  refine r_stN ((16 + (4 * v)) + 1) dX12_settles_30 hR hF rfl (by omega) (fun h hR hF => ?_)
  refine e_aload_n dX12_settles_31 rfl ?_
  refine e_get dX12_settles_32 fl_X12_9_12 hR.1 rfl ?_
  refine e_iload dX12_settles_35 rfl ?_
  refine e_iconst (nI (2)) dX12_settles_37 (by decide) ?_
  refine e_iaddN dX12_settles_38 ?_
  refine e_iload_n dX12_settles_39 rfl ?_
  refine r_stN ((16 + (4 * v)) + 2) dX12_settles_40 hR hF rfl (by omega) (fun h hR hF => ?_)
  refine e_aload_n dX12_settles_41 rfl ?_
  refine e_get dX12_settles_42 fl_X12_9_12 hR.1 rfl ?_
  refine e_iload dX12_settles_45 rfl ?_
  refine e_iconst (nI (3)) dX12_settles_47 (by decide) ?_
  refine e_iaddN dX12_settles_48 ?_
  refine e_iload dX12_settles_49 rfl ?_
  refine r_stN ((16 + (4 * v)) + 3) dX12_settles_51 hR hF rfl (by omega) (fun h hR hF => ?_)
  refine e_aload_n dX12_settles_52 rfl ?_
  refine e_get dX12_settles_53 fl_X12_9_12 hR.1 rfl ?_
  refine e_iconst (nI (1)) dX12_settles_56 (by decide) ?_
  refine e_dup2 dX12_settles_57 rfl rfl ?_
  refine e_ild (1) (nI (v)) dX12_settles_58 hR.2.1 rfl (by omega) (by decide) (by simp (disch := omega) only [pk_un, hN]) ?_
  refine e_iconst (nI (1)) dX12_settles_59 (by decide) ?_
  refine e_iaddN dX12_settles_60 ?_
  refine r_stN (1) dX12_settles_61 hR hF rfl (by omega) (fun h hR hF => ?_)
  exact e_vret dX12_settles_62 rfl (hp _ ⟨hR, hF⟩)
theorem s_is (D : En) {h : AH} {N : Nat → Int32} {σ : Nat → Nat → Int32} {τ : Nat → Int32} (hR : RefAt h N σ τ) (k : Int32) (c : Nat) (hc : c < 408) : Sp D 1 mX12_is [.ref (82), .int (k), .int (nI (c))] h 0 0 (some (.int (b2 (nI 0 ≤ k ∧ k ≤ N c - nI 1)))) (fun h' => h' = h) := by
  intro post hp
  show Ev D 1 mX12_is 0 [some (.ref (82)), some (.int (k)), some (.int (nI (c)))] [] h 0 0 post
  refine e_iload_n dX12_is_0 rfl ?_
  refine e_iconst (nI (0)) dX12_is_1 (by decide) ?_
  refine e_aload_n dX12_is_2 rfl ?_
  refine e_get dX12_is_3 fl_X12_9_12 hR.1 rfl ?_
  refine e_iload_n dX12_is_6 rfl ?_
  refine e_ild (c) ((N (c))) dX12_is_7 hR.2.1 rfl (by omega) (by decide) rfl ?_
  refine e_iconst (nI (1)) dX12_is_8 (by decide) ?_
  refine e_isub dX12_is_9 ?_
  refine c_S3iR (N := mX12_within) dX12_is_10 ls_X12_76 mo_X12_within  (Nat.le_of_ble_eq_true rfl) (Nat.le_of_ble_eq_true rfl) (by decide) (s_within D ((k)) (nI (0)) (((N (c)) - nI (1)))) ?_
  exact e_zretB dX12_is_13 rfl (hp _ rfl)
theorem s_isMany (D : En) {h : AH} (x : Int32) : Sp D 1 mX12_isMany [.int (x)] h 0 0 (some (.int (b2 (nI 0 ≤ x ∧ x ≤ nI 99999)))) (fun h' => h' = h) := by
  intro post hp
  show Ev D 1 mX12_isMany 0 [some (.int (x))] [] h 0 0 post
  refine e_iload_n dX12_isMany_0 rfl ?_
  refine e_iconst (nI (0)) dX12_isMany_1 (by decide) ?_
  refine e_ldc dX12_isMany_2 w_1293 ?_
  refine e_top (nI 99999) (by decide) ?_
  refine c_S3iR (N := mX12_within) dX12_isMany_4 ls_X12_76 mo_X12_within  (Nat.le_of_ble_eq_true rfl) (Nat.le_of_ble_eq_true rfl) (by decide) (s_within D ((x)) (nI (0)) (nI (99999))) ?_
  exact e_zretB dX12_isMany_7 rfl (hp _ rfl)
theorem s_has (D : En) {h : AH} (x k : Int32) : Sp D 0 mX12_has [.int (x), .int (k)] h 0 0 (some (.int (b2 ((x >>> (k &&& 31)) &&& nI 1 = nI 1)))) (fun h' => h' = h) := by
  intro post hp
  show Ev D 0 mX12_has 0 [some (.int (x)), some (.int (k))] [] h 0 0 post
  refine e_iload_n dX12_has_0 rfl ?_
  refine e_iload_n dX12_has_1 rfl ?_
  refine e_ishr dX12_has_2 ?_
  refine e_iconst (nI (1)) dX12_has_3 (by decide) ?_
  refine e_iand dX12_has_4 ?_
  refine e_iconst (nI (1)) dX12_has_5 (by decide) ?_
  have K1 : Ev D 0 mX12_has 14 [some (.int (x)), some (.int (k))] [.int (b2 ((x >>> (k &&& 31)) &&& nI 1 = nI 1))] h 0 0 post := by
    exact e_zretB dX12_has_14 rfl (hp _ rfl)
  refine e_icmp_ne 13 dX12_has_6 (by decide) (fun hcq6 => ?_) (fun hcq6 => ?_)
  · refine e_iconst (nI (0)) dX12_has_13 (by decide) ?_
    exact e_top (b2 ((x >>> (k &&& 31)) &&& nI 1 = nI 1)) (by first | exact (if_pos (by assumption)).symm | exact (if_neg (by assumption)).symm | exact (b2_t (by assumption)).symm | exact (b2_f (by assumption)).symm | simp_all [b2]) K1
  · refine e_iconst (nI (1)) dX12_has_9 (by decide) ?_
    refine e_goto 14 dX12_has_10 (by decide) ?_
    exact e_top (b2 ((x >>> (k &&& 31)) &&& nI 1 = nI 1)) (by first | exact (if_pos (by assumption)).symm | exact (if_neg (by assumption)).symm | exact (b2_t (by assumption)).symm | exact (b2_f (by assumption)).symm | simp_all [b2]) K1
abbrev toldR (p y g o : Int32) : Prop := (nI 0 ≤ p ∧ p ≤ nI 3030) ∧ p - p / nI 100 * nI 100 ≤ nI 30 ∧ (nI 0 ≤ y ∧ y ≤ nI 99999) ∧ (nI 0 ≤ g ∧ g ≤ nI 99999) ∧ (nI 0 ≤ o ∧ o ≤ nI 99999)
theorem s_isAsTold (D : En) {h : AH} (p y g o : Int32) : Sp D 2 mX12_isAsTold [.int (p), .int (y), .int (g), .int (o)] h 0 0 (some (.int (b2 ((nI 0 ≤ p ∧ p ≤ nI 3030) ∧ p - p / nI 100 * nI 100 ≤ nI 30 ∧ (nI 0 ≤ y ∧ y ≤ nI 99999) ∧ (nI 0 ≤ g ∧ g ≤ nI 99999) ∧ (nI 0 ≤ o ∧ o ≤ nI 99999))))) (fun h' => h' = h) := by
  intro post hp
  show Ev D 2 mX12_isAsTold 0 [some (.int (p)), some (.int (y)), some (.int (g)), some (.int (o))] [] h 0 0 post
  refine e_iload_n dX12_isAsTold_0 rfl ?_
  refine e_iconst (nI (0)) dX12_isAsTold_1 (by decide) ?_
  refine e_sipush (nI (3030)) dX12_isAsTold_2 (by decide) ?_
  refine c_S3iR (N := mX12_within) dX12_isAsTold_5 ls_X12_76 mo_X12_within  (Nat.le_of_ble_eq_true rfl) (Nat.le_of_ble_eq_true rfl) (by decide) (s_within D ((p)) (nI (0)) (nI (3030))) ?_
  have K1 : Ev D 2 mX12_isAsTold 46 [some (.int (p)), some (.int (y)), some (.int (g)), some (.int (o))] [.int (b2 ((nI 0 ≤ p ∧ p ≤ nI 3030) ∧ p - p / nI 100 * nI 100 ≤ nI 30 ∧ (nI 0 ≤ y ∧ y ≤ nI 99999) ∧ (nI 0 ≤ g ∧ g ≤ nI 99999) ∧ (nI 0 ≤ o ∧ o ≤ nI 99999)))] h 0 0 post := by
    exact e_zretB dX12_isAsTold_46 rfl (hp _ rfl)
  refine e_if_eqB 45 dX12_isAsTold_8 (by decide) (fun hcq8 => ?_) (fun hcq8 => ?_)
  · refine e_iconst (nI (0)) dX12_isAsTold_45 (by decide) ?_
    exact e_top (b2 ((nI 0 ≤ p ∧ p ≤ nI 3030) ∧ p - p / nI 100 * nI 100 ≤ nI 30 ∧ (nI 0 ≤ y ∧ y ≤ nI 99999) ∧ (nI 0 ≤ g ∧ g ≤ nI 99999) ∧ (nI 0 ≤ o ∧ o ≤ nI 99999))) (by first | exact (b2_t ⟨hcq8, Int32.not_lt.mp hcq17, hcq24, hcq31, hcq38⟩).symm | exact (b2_f (fun q => hcq8 q.1)).symm | exact (b2_f (fun q => Int32.not_lt.mpr q.2.1 hcq17)).symm | exact (b2_f (fun q => hcq24 q.2.2.1)).symm | exact (b2_f (fun q => hcq31 q.2.2.2.1)).symm | exact (b2_f (fun q => hcq38 q.2.2.2.2)).symm) K1
  · refine e_iload_n dX12_isAsTold_11 rfl ?_
    refine e_bipush (nI (100)) dX12_isAsTold_12 (by decide) ?_
    refine e_irem dX12_isAsTold_14 (by decide) ?_
    refine e_bipush (nI (30)) dX12_isAsTold_15 (by decide) ?_
    refine e_icmp_gt 45 dX12_isAsTold_17 (by decide) (fun hcq17 => ?_) (fun hcq17 => ?_)
    · refine e_iconst (nI (0)) dX12_isAsTold_45 (by decide) ?_
      exact e_top (b2 ((nI 0 ≤ p ∧ p ≤ nI 3030) ∧ p - p / nI 100 * nI 100 ≤ nI 30 ∧ (nI 0 ≤ y ∧ y ≤ nI 99999) ∧ (nI 0 ≤ g ∧ g ≤ nI 99999) ∧ (nI 0 ≤ o ∧ o ≤ nI 99999))) (by first | exact (b2_t ⟨hcq8, Int32.not_lt.mp hcq17, hcq24, hcq31, hcq38⟩).symm | exact (b2_f (fun q => hcq8 q.1)).symm | exact (b2_f (fun q => Int32.not_lt.mpr q.2.1 hcq17)).symm | exact (b2_f (fun q => hcq24 q.2.2.1)).symm | exact (b2_f (fun q => hcq31 q.2.2.2.1)).symm | exact (b2_f (fun q => hcq38 q.2.2.2.2)).symm) K1
    · refine e_iload_n dX12_isAsTold_20 rfl ?_
      refine c_S1iR (N := mX12_isMany) dX12_isAsTold_21 ls_X12_81 mo_X12_isMany  (Nat.le_of_ble_eq_true rfl) (Nat.le_of_ble_eq_true rfl) (by decide) (s_isMany D ((y))) ?_
      refine e_if_eqB 45 dX12_isAsTold_24 (by decide) (fun hcq24 => ?_) (fun hcq24 => ?_)
      · refine e_iconst (nI (0)) dX12_isAsTold_45 (by decide) ?_
        exact e_top (b2 ((nI 0 ≤ p ∧ p ≤ nI 3030) ∧ p - p / nI 100 * nI 100 ≤ nI 30 ∧ (nI 0 ≤ y ∧ y ≤ nI 99999) ∧ (nI 0 ≤ g ∧ g ≤ nI 99999) ∧ (nI 0 ≤ o ∧ o ≤ nI 99999))) (by first | exact (b2_t ⟨hcq8, Int32.not_lt.mp hcq17, hcq24, hcq31, hcq38⟩).symm | exact (b2_f (fun q => hcq8 q.1)).symm | exact (b2_f (fun q => Int32.not_lt.mpr q.2.1 hcq17)).symm | exact (b2_f (fun q => hcq24 q.2.2.1)).symm | exact (b2_f (fun q => hcq31 q.2.2.2.1)).symm | exact (b2_f (fun q => hcq38 q.2.2.2.2)).symm) K1
      · refine e_iload_n dX12_isAsTold_27 rfl ?_
        refine c_S1iR (N := mX12_isMany) dX12_isAsTold_28 ls_X12_81 mo_X12_isMany  (Nat.le_of_ble_eq_true rfl) (Nat.le_of_ble_eq_true rfl) (by decide) (s_isMany D ((g))) ?_
        refine e_if_eqB 45 dX12_isAsTold_31 (by decide) (fun hcq31 => ?_) (fun hcq31 => ?_)
        · refine e_iconst (nI (0)) dX12_isAsTold_45 (by decide) ?_
          exact e_top (b2 ((nI 0 ≤ p ∧ p ≤ nI 3030) ∧ p - p / nI 100 * nI 100 ≤ nI 30 ∧ (nI 0 ≤ y ∧ y ≤ nI 99999) ∧ (nI 0 ≤ g ∧ g ≤ nI 99999) ∧ (nI 0 ≤ o ∧ o ≤ nI 99999))) (by first | exact (b2_t ⟨hcq8, Int32.not_lt.mp hcq17, hcq24, hcq31, hcq38⟩).symm | exact (b2_f (fun q => hcq8 q.1)).symm | exact (b2_f (fun q => Int32.not_lt.mpr q.2.1 hcq17)).symm | exact (b2_f (fun q => hcq24 q.2.2.1)).symm | exact (b2_f (fun q => hcq31 q.2.2.2.1)).symm | exact (b2_f (fun q => hcq38 q.2.2.2.2)).symm) K1
        · refine e_iload_n dX12_isAsTold_34 rfl ?_
          refine c_S1iR (N := mX12_isMany) dX12_isAsTold_35 ls_X12_81 mo_X12_isMany  (Nat.le_of_ble_eq_true rfl) (Nat.le_of_ble_eq_true rfl) (by decide) (s_isMany D ((o))) ?_
          refine e_if_eqB 45 dX12_isAsTold_38 (by decide) (fun hcq38 => ?_) (fun hcq38 => ?_)
          · refine e_iconst (nI (0)) dX12_isAsTold_45 (by decide) ?_
            exact e_top (b2 ((nI 0 ≤ p ∧ p ≤ nI 3030) ∧ p - p / nI 100 * nI 100 ≤ nI 30 ∧ (nI 0 ≤ y ∧ y ≤ nI 99999) ∧ (nI 0 ≤ g ∧ g ≤ nI 99999) ∧ (nI 0 ≤ o ∧ o ≤ nI 99999))) (by first | exact (b2_t ⟨hcq8, Int32.not_lt.mp hcq17, hcq24, hcq31, hcq38⟩).symm | exact (b2_f (fun q => hcq8 q.1)).symm | exact (b2_f (fun q => Int32.not_lt.mpr q.2.1 hcq17)).symm | exact (b2_f (fun q => hcq24 q.2.2.1)).symm | exact (b2_f (fun q => hcq31 q.2.2.2.1)).symm | exact (b2_f (fun q => hcq38 q.2.2.2.2)).symm) K1
          · refine e_iconst (nI (1)) dX12_isAsTold_41 (by decide) ?_
            refine e_goto 46 dX12_isAsTold_42 (by decide) ?_
            exact e_top (b2 ((nI 0 ≤ p ∧ p ≤ nI 3030) ∧ p - p / nI 100 * nI 100 ≤ nI 30 ∧ (nI 0 ≤ y ∧ y ≤ nI 99999) ∧ (nI 0 ≤ g ∧ g ≤ nI 99999) ∧ (nI 0 ≤ o ∧ o ≤ nI 99999))) (by first | exact (b2_t ⟨hcq8, Int32.not_lt.mp hcq17, hcq24, hcq31, hcq38⟩).symm | exact (b2_f (fun q => hcq8 q.1)).symm | exact (b2_f (fun q => Int32.not_lt.mpr q.2.1 hcq17)).symm | exact (b2_f (fun q => hcq24 q.2.2.1)).symm | exact (b2_f (fun q => hcq31 q.2.2.2.1)).symm | exact (b2_f (fun q => hcq38 q.2.2.2.2)).symm) K1
theorem s_put (D : En) {h : AH} {N : Nat → Int32} {σ : Nat → Nat → Int32} {τ : Nat → Int32} (hR : RefAt h N σ τ) (k : Nat) (hk : k < 408) (x : Int32) : Sp D 0 mX12_put [.ref (82), .int (nI (k)), .int (x)] h 0 0 (some (.int (N k))) (fun h' => RefAt h' (upd N k x) σ τ ∧ FrR h h') := by
  intro post hp
  show Ev D 0 mX12_put 0 [some (.ref (82)), some (.int (nI (k))), some (.int (x)), none] [] h 0 0 post
  have hF : FrR h h := FrR.rf
  refine e_aload_n dX12_put_0 rfl ?_
  refine e_get dX12_put_1 fl_X12_9_12 hR.1 rfl ?_
  refine e_iload_n dX12_put_4 rfl ?_
  refine e_ild (k) ((N (k))) dX12_put_5 hR.2.1 rfl (by omega) (by decide) rfl ?_
  refine e_istore_n dX12_put_6 (by decide) ?_
  refine e_aload_n dX12_put_7 rfl ?_
  refine e_get dX12_put_8 fl_X12_9_12 hR.1 rfl ?_
  refine e_iload_n dX12_put_11 rfl ?_
  refine e_iload_n dX12_put_12 rfl ?_
  refine r_stN (k) dX12_put_13 hR hF rfl (by omega) (fun h hR hF => ?_)
  refine e_iload_n dX12_put_14 rfl ?_
  exact e_iret dX12_put_15 rfl (hp _ ⟨hR, hF⟩)
def absI (x : Int32) : Int32 := if 0 ≤ x then x else 0 - x
def wayR (N : Nat → Int32) (a b : Nat) : Int32 := if N (48 + 8 * a + b) = nI 1 then (absI (N (16 + 4 * a) / nI 100 - N (16 + 4 * b) / nI 100) + absI (N (16 + 4 * a) - N (16 + 4 * a) / nI 100 * nI 100 - (N (16 + 4 * b) - N (16 + 4 * b) / nI 100 * nI 100))) * N 6 / nI 2 else (absI (N (16 + 4 * a) / nI 100 - N (16 + 4 * b) / nI 100) + absI (N (16 + 4 * a) - N (16 + 4 * a) / nI 100 * nI 100 - (N (16 + 4 * b) - N (16 + 4 * b) / nI 100 * nI 100))) * N 6
theorem s_wayOf (D : En) {h : AH} {N : Nat → Int32} {σ : Nat → Nat → Int32} {τ : Nat → Int32} (hR : RefAt h N σ τ) (a b : Nat) (ha : a < 8) (hb : b < 8) : Sp D 1 mX12_wayOf [.ref (82), .int (nI (a)), .int (nI (b))] h 0 0 (some (.int (wayR N a b))) (fun h' => h' = h) := by
  intro post hp
  show Ev D 1 mX12_wayOf 0 [some (.ref (82)), some (.int (nI (a))), some (.int (nI (b))), none, none, none] [] h 0 0 post
  refine e_aload_n dX12_wayOf_0 rfl ?_
  refine e_iload_n dX12_wayOf_1 rfl ?_
  refine c_V1iR (N := mX12_placeOf) dX12_wayOf_2 lv_X12_110 mo_X12_placeOf hR.cn (Nat.le_of_ble_eq_true rfl) (Nat.le_of_ble_eq_true rfl) (by decide) (s_placeOf D hR (a) (by omega)) ?_
  refine e_bipush (nI (100)) dX12_wayOf_5 (by decide) ?_
  refine e_idiv dX12_wayOf_7 (by decide) ?_
  refine e_aload_n dX12_wayOf_8 rfl ?_
  refine e_iload_n dX12_wayOf_9 rfl ?_
  refine c_V1iR (N := mX12_placeOf) dX12_wayOf_10 lv_X12_110 mo_X12_placeOf hR.cn (Nat.le_of_ble_eq_true rfl) (Nat.le_of_ble_eq_true rfl) (by decide) (s_placeOf D hR (b) (by omega)) ?_
  refine e_bipush (nI (100)) dX12_wayOf_13 (by decide) ?_
  refine e_idiv dX12_wayOf_15 (by decide) ?_
  refine e_isub dX12_wayOf_16 ?_
  refine e_mabs dX12_wayOf_17 mw_X12_124 (by decide) (Nat.le_of_ble_eq_true rfl) ?_
  refine e_istore_n dX12_wayOf_20 (by decide) ?_
  refine e_aload_n dX12_wayOf_21 rfl ?_
  refine e_iload_n dX12_wayOf_22 rfl ?_
  refine c_V1iR (N := mX12_placeOf) dX12_wayOf_23 lv_X12_110 mo_X12_placeOf hR.cn (Nat.le_of_ble_eq_true rfl) (Nat.le_of_ble_eq_true rfl) (by decide) (s_placeOf D hR (a) (by omega)) ?_
  refine e_bipush (nI (100)) dX12_wayOf_26 (by decide) ?_
  refine e_irem dX12_wayOf_28 (by decide) ?_
  refine e_aload_n dX12_wayOf_29 rfl ?_
  refine e_iload_n dX12_wayOf_30 rfl ?_
  refine c_V1iR (N := mX12_placeOf) dX12_wayOf_31 lv_X12_110 mo_X12_placeOf hR.cn (Nat.le_of_ble_eq_true rfl) (Nat.le_of_ble_eq_true rfl) (by decide) (s_placeOf D hR (b) (by omega)) ?_
  refine e_bipush (nI (100)) dX12_wayOf_34 (by decide) ?_
  refine e_irem dX12_wayOf_36 (by decide) ?_
  refine e_isub dX12_wayOf_37 ?_
  refine e_mabs dX12_wayOf_38 mw_X12_124 (by decide) (Nat.le_of_ble_eq_true rfl) ?_
  refine e_istore dX12_wayOf_41 (by decide) ?_
  refine e_iload_n dX12_wayOf_43 rfl ?_
  refine e_iload dX12_wayOf_44 rfl ?_
  refine e_iadd dX12_wayOf_46 ?_
  refine e_aload_n dX12_wayOf_47 rfl ?_
  refine e_get dX12_wayOf_48 fl_X12_9_12 hR.1 rfl ?_
  refine e_bipush (nI (6)) dX12_wayOf_51 (by decide) ?_
  refine e_ild (6) ((N (6))) dX12_wayOf_53 hR.2.1 rfl (by omega) (by decide) rfl ?_
  refine e_imul dX12_wayOf_54 ?_
  refine e_istore dX12_wayOf_55 (by decide) ?_
  refine e_aload_n dX12_wayOf_57 rfl ?_
  refine e_get dX12_wayOf_58 fl_X12_9_12 hR.1 rfl ?_
  refine e_bipush (nI (48)) dX12_wayOf_61 (by decide) ?_
  refine e_bipush (nI (8)) dX12_wayOf_63 (by decide) ?_
  refine e_iload_n dX12_wayOf_65 rfl ?_
  refine e_imulN dX12_wayOf_66 ?_
  refine e_iaddN dX12_wayOf_67 ?_
  refine e_iload_n dX12_wayOf_68 rfl ?_
  refine e_iaddN dX12_wayOf_69 ?_
  refine e_ild ((48 + (8 * a)) + b) ((N ((48 + (8 * a)) + b))) dX12_wayOf_70 hR.2.1 rfl (by omega) (by decide) rfl ?_
  refine e_iconst (nI (1)) dX12_wayOf_71 (by decide) ?_
  refine e_icmp_ne 82 dX12_wayOf_72 (by decide) (fun hcq72 => ?_) (fun hcq72 => ?_)
  · refine e_iload dX12_wayOf_82 rfl ?_
    exact e_iret dX12_wayOf_84 rfl (by first | (have e9 := hp _ rfl; unfold wayR at e9; rw [if_pos hcq72] at e9; exact e9) | (have e9 := hp _ rfl; unfold wayR at e9; rw [if_neg hcq72] at e9; exact e9))
  · refine e_iload dX12_wayOf_75 rfl ?_
    refine e_iconst (nI (2)) dX12_wayOf_77 (by decide) ?_
    refine e_idiv dX12_wayOf_78 (by decide) ?_
    refine e_goto 84 dX12_wayOf_79 (by decide) ?_
    exact e_iret dX12_wayOf_84 rfl (by first | (have e9 := hp _ rfl; unfold wayR at e9; rw [if_pos hcq72] at e9; exact e9) | (have e9 := hp _ rfl; unfold wayR at e9; rw [if_neg hcq72] at e9; exact e9))
theorem s_thing (D : En) {h : AH} {N : Nat → Int32} {σ : Nat → Nat → Int32} {τ : Nat → Int32} (hR : RefAt h N σ τ) (t f : Nat) (ht : t < 10) (hf : f < 7) : Sp D 0 mX12_thing [.ref (82), .int (nI (t)), .int (nI (f))] h 0 0 (some (.int (N (112 + 7 * t + f)))) (fun h' => h' = h) := by
  intro post hp
  show Ev D 0 mX12_thing 0 [some (.ref (82)), some (.int (nI (t))), some (.int (nI (f)))] [] h 0 0 post
  refine e_aload_n dX12_thing_0 rfl ?_
  refine e_get dX12_thing_1 fl_X12_9_12 hR.1 rfl ?_
  refine e_bipush (nI (112)) dX12_thing_4 (by decide) ?_
  refine e_bipush (nI (7)) dX12_thing_6 (by decide) ?_
  refine e_iload_n dX12_thing_8 rfl ?_
  refine e_imulN dX12_thing_9 ?_
  refine e_iaddN dX12_thing_10 ?_
  refine e_iload_n dX12_thing_11 rfl ?_
  refine e_iaddN dX12_thing_12 ?_
  refine e_ild ((112 + (7 * t)) + f) ((N ((112 + (7 * t)) + f))) dX12_thing_13 hR.2.1 rfl (by omega) (by decide) rfl ?_
  exact e_iret dX12_thing_14 rfl (hp _ rfl)
theorem s_isOpen (D : En) {h : AH} {N : Nat → Int32} {σ : Nat → Nat → Int32} {τ : Nat → Int32} (hR : RefAt h N σ τ) (t : Nat) (ht : t < 10) : Sp D 1 mX12_isOpen [.ref (82), .int (nI (t))] h 0 0 (some (.int (b2 (N (112 + 7 * t + 5) = nI 1)))) (fun h' => h' = h) := by
  intro post hp
  show Ev D 1 mX12_isOpen 0 [some (.ref (82)), some (.int (nI (t)))] [] h 0 0 post
  refine e_aload_n dX12_isOpen_0 rfl ?_
  refine e_iload_n dX12_isOpen_1 rfl ?_
  refine e_iconst (nI (5)) dX12_isOpen_2 (by decide) ?_
  refine c_V2iR (N := mX12_thing) dX12_isOpen_3 lv_X12_136 mo_X12_thing hR.cn (Nat.le_of_ble_eq_true rfl) (Nat.le_of_ble_eq_true rfl) (by decide) (s_thing D hR (t) (5) (by omega) (by omega)) ?_
  refine e_iconst (nI (1)) dX12_isOpen_6 (by decide) ?_
  have K1 : Ev D 1 mX12_isOpen 15 [some (.ref (82)), some (.int (nI (t)))] [.int (b2 (N (112 + 7 * t + 5) = nI 1))] h 0 0 post := by
    exact e_zretB dX12_isOpen_15 rfl (hp _ rfl)
  refine e_icmp_ne 14 dX12_isOpen_7 (by decide) (fun hcq7 => ?_) (fun hcq7 => ?_)
  · refine e_iconst (nI (0)) dX12_isOpen_14 (by decide) ?_
    exact e_top (b2 (N (112 + 7 * t + 5) = nI 1)) (by first | exact (if_pos (by assumption)).symm | exact (if_neg (by assumption)).symm | exact (b2_t (by assumption)).symm | exact (b2_f (by assumption)).symm | simp_all [b2]) K1
  · refine e_iconst (nI (1)) dX12_isOpen_10 (by decide) ?_
    refine e_goto 15 dX12_isOpen_11 (by decide) ?_
    exact e_top (b2 (N (112 + 7 * t + 5) = nI 1)) (by first | exact (if_pos (by assumption)).symm | exact (if_neg (by assumption)).symm | exact (b2_t (by assumption)).symm | exact (b2_f (by assumption)).symm | simp_all [b2]) K1
theorem s_opens (D : En) {h : AH} {N : Nat → Int32} {σ : Nat → Nat → Int32} {τ : Nat → Int32} (hR : RefAt h N σ τ) (t : Nat) (ht : t < 10) (x : Int32) : Sp D 0 mX12_opens [.ref (82), .int (nI (t)), .int (x)] h 0 0 (none) (fun h' => RefAt h' (upd N (112 + 7 * t + 5) (if x = 0 then nI 0 else nI 1)) σ τ ∧ FrR h h') := by
  intro post hp
  show Ev D 0 mX12_opens 0 [some (.ref (82)), some (.int (nI (t))), some (.int (x))] [] h 0 0 post
  have hF : FrR h h := FrR.rf
  refine e_aload_n dX12_opens_0 rfl ?_
  refine e_get dX12_opens_1 fl_X12_9_12 hR.1 rfl ?_
  refine e_bipush (nI (112)) dX12_opens_4 (by decide) ?_
  refine e_bipush (nI (7)) dX12_opens_6 (by decide) ?_
  refine e_iload_n dX12_opens_8 rfl ?_
  refine e_imulN dX12_opens_9 ?_
  refine e_iaddN dX12_opens_10 ?_
  refine e_iconst (nI (5)) dX12_opens_11 (by decide) ?_
  refine e_iaddN dX12_opens_12 ?_
  refine e_iload_n dX12_opens_13 rfl ?_
  have K1 : Ev D 0 mX12_opens 22 [some (.ref (82)), some (.int (nI (t))), some (.int (x))] [.int (if x = 0 then nI 0 else nI 1), .int (nI ((112 + (7 * t)) + 5)), .ref (83)] h 0 0 post := by
    refine r_stN ((112 + (7 * t)) + 5) dX12_opens_22 hR hF rfl (by omega) (fun h hR hF => ?_)
    exact e_vret dX12_opens_23 rfl (hp _ ⟨hR, hF⟩)
  refine e_if_eq 21 dX12_opens_14 (by decide) (fun hcq14 => ?_) (fun hcq14 => ?_)
  · refine e_iconst (nI (0)) dX12_opens_21 (by decide) ?_
    exact e_top ((if x = 0 then nI 0 else nI 1)) (by first | exact (if_pos (by assumption)).symm | exact (if_neg (by assumption)).symm | exact (b2_t (by assumption)).symm | exact (b2_f (by assumption)).symm | simp_all [b2]) K1
  · refine e_iconst (nI (1)) dX12_opens_17 (by decide) ?_
    refine e_goto 22 dX12_opens_18 (by decide) ?_
    exact e_top ((if x = 0 then nI 0 else nI 1)) (by first | exact (if_pos (by assumption)).symm | exact (if_neg (by assumption)).symm | exact (b2_t (by assumption)).symm | exact (b2_f (by assumption)).symm | simp_all [b2]) K1
def servP (N : Nat → Int32) (kind reach : Int32) (at_ v : Nat) : Prop := wayR N at_ v ≤ (if kind = nI 5 then nI 2 * reach else reach)
theorem s_serves (D : En) {h : AH} {N : Nat → Int32} {σ : Nat → Nat → Int32} {τ : Nat → Int32} (hR : RefAt h N σ τ) (kind reach : Int32) (a v : Nat) (ha : a < 8) (hv : v < 8) : Sp D 2 mX12_serves [.ref (82), .int (kind), .int (reach), .int (nI (a)), .int (nI (v))] h 0 0 (some (.int (b2 (wayR N a v ≤ (if kind = nI 5 then nI 2 * reach else reach))))) (fun h' => h' = h) := by
  intro post hp
  show Ev D 2 mX12_serves 0 [some (.ref (82)), some (.int (kind)), some (.int (reach)), some (.int (nI (a))), some (.int (nI (v)))] [] h 0 0 post
  refine e_aload_n dX12_serves_0 rfl ?_
  refine e_iload_n dX12_serves_1 rfl ?_
  refine e_iload dX12_serves_2 rfl ?_
  refine c_V2iR (N := mX12_wayOf) dX12_serves_4 lv_X12_129 mo_X12_wayOf hR.cn (Nat.le_of_ble_eq_true rfl) (Nat.le_of_ble_eq_true rfl) (by decide) (s_wayOf D hR (a) (v) (by omega) (by omega)) ?_
  refine e_iload_n dX12_serves_7 rfl ?_
  refine e_iconst (nI (5)) dX12_serves_8 (by decide) ?_
  have K1 : Ev D 2 mX12_serves 19 [some (.ref (82)), some (.int (kind)), some (.int (reach)), some (.int (nI (a))), some (.int (nI (v)))] [.int (if kind = nI 5 then nI 2 * reach else reach), .int (wayR N a v)] h 0 0 post := by
    have K2 : Ev D 2 mX12_serves 27 [some (.ref (82)), some (.int (kind)), some (.int (reach)), some (.int (nI (a))), some (.int (nI (v)))] [.int (b2 (wayR N a v ≤ (if kind = nI 5 then nI 2 * reach else reach)))] h 0 0 post := by
      exact e_zretB dX12_serves_27 rfl (hp _ rfl)
    refine e_icmp_gt 26 dX12_serves_19 (by decide) (fun hcq19 => ?_) (fun hcq19 => ?_)
    · refine e_iconst (nI (0)) dX12_serves_26 (by decide) ?_
      exact e_top (b2 (wayR N a v ≤ (if kind = nI 5 then nI 2 * reach else reach))) (by first | exact (b2_t (Int32.not_lt.mp hcq19)).symm | exact (b2_f (Int32.not_le.mpr hcq19)).symm) K2
    · refine e_iconst (nI (1)) dX12_serves_22 (by decide) ?_
      refine e_goto 27 dX12_serves_23 (by decide) ?_
      exact e_top (b2 (wayR N a v ≤ (if kind = nI 5 then nI 2 * reach else reach))) (by first | exact (b2_t (Int32.not_lt.mp hcq19)).symm | exact (b2_f (Int32.not_le.mpr hcq19)).symm) K2
  refine e_icmp_ne 18 dX12_serves_9 (by decide) (fun hcq9 => ?_) (fun hcq9 => ?_)
  · refine e_iload_n dX12_serves_18 rfl ?_
    exact e_top ((if kind = nI 5 then nI 2 * reach else reach)) (by first | exact (if_pos (by assumption)).symm | exact (if_neg (by assumption)).symm | exact (b2_t (by assumption)).symm | exact (b2_f (by assumption)).symm | simp_all [b2]) K1
  · refine e_iconst (nI (2)) dX12_serves_12 (by decide) ?_
    refine e_iload_n dX12_serves_13 rfl ?_
    refine e_imul dX12_serves_14 ?_
    refine e_goto 19 dX12_serves_15 (by decide) ?_
    exact e_top ((if kind = nI 5 then nI 2 * reach else reach)) (by first | exact (if_pos (by assumption)).symm | exact (if_neg (by assumption)).symm | exact (b2_t (by assumption)).symm | exact (b2_f (by assumption)).symm | simp_all [b2]) K1
