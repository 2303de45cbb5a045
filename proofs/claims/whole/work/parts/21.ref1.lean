theorem s_within (D : En) {h : AH} (x lo hi : Int32) : Sp D 0 mX12_within [.int (x), .int (lo), .int (hi)] h 0 0 (some (.int (b2 (lo ≤ x ∧ x ≤ hi)))) (fun h' => h' = h) := by
  intro post hp
  show Ev D 0 mX12_within 0 [some (.int (x)), some (.int (lo)), some (.int (hi))] [] h 0 0 post
  refine e_iload_n dX12_within_0 rfl ?_
  refine e_iload_n dX12_within_1 rfl ?_
  refine e_icmp_lt 14 dX12_within_2 (by decide) (fun c2 => ?_) (fun c2 => ?_)
  · refine e_iconst (nI (0)) dX12_within_14 (by decide) ?_
    exact e_zret dX12_within_15 rfl (by decide) (by first | (rw [show nI 1 = b2 (lo ≤ x ∧ x ≤ hi) from (b2_t ⟨Int32.not_lt.mp c2, Int32.not_lt.mp c7⟩).symm]; exact hp _ rfl) | (rw [show nI 0 = b2 (lo ≤ x ∧ x ≤ hi) from (b2_f (fun q => Int32.not_lt.mpr q.1 c2)).symm]; exact hp _ rfl) | (rw [show nI 0 = b2 (lo ≤ x ∧ x ≤ hi) from (b2_f (fun q => Int32.not_lt.mpr q.2 c7)).symm]; exact hp _ rfl))
  · refine e_iload_n dX12_within_5 rfl ?_
    refine e_iload_n dX12_within_6 rfl ?_
    refine e_icmp_gt 14 dX12_within_7 (by decide) (fun c7 => ?_) (fun c7 => ?_)
    · refine e_iconst (nI (0)) dX12_within_14 (by decide) ?_
      exact e_zret dX12_within_15 rfl (by decide) (by first | (rw [show nI 1 = b2 (lo ≤ x ∧ x ≤ hi) from (b2_t ⟨Int32.not_lt.mp c2, Int32.not_lt.mp c7⟩).symm]; exact hp _ rfl) | (rw [show nI 0 = b2 (lo ≤ x ∧ x ≤ hi) from (b2_f (fun q => Int32.not_lt.mpr q.1 c2)).symm]; exact hp _ rfl) | (rw [show nI 0 = b2 (lo ≤ x ∧ x ≤ hi) from (b2_f (fun q => Int32.not_lt.mpr q.2 c7)).symm]; exact hp _ rfl))
    · refine e_iconst (nI (1)) dX12_within_10 (by decide) ?_
      refine e_goto 15 dX12_within_11 (by decide) ?_
      exact e_zret dX12_within_15 rfl (by decide) (by first | (rw [show nI 1 = b2 (lo ≤ x ∧ x ≤ hi) from (b2_t ⟨Int32.not_lt.mp c2, Int32.not_lt.mp c7⟩).symm]; exact hp _ rfl) | (rw [show nI 0 = b2 (lo ≤ x ∧ x ≤ hi) from (b2_f (fun q => Int32.not_lt.mpr q.1 c2)).symm]; exact hp _ rfl) | (rw [show nI 0 = b2 (lo ≤ x ∧ x ≤ hi) from (b2_f (fun q => Int32.not_lt.mpr q.2 c7)).symm]; exact hp _ rfl))
theorem s_of (D : En) {h : AH} {N : Nat → Int32} {σ : Nat → Nat → Int32} {τ : Nat → Int32} (hR : RefAt h N σ τ) (v s : Nat) (hv : v < 8) (hs : s < 3) : Sp D 0 mX12_of [.ref (78), .int (nI (v)), .int (nI (s))] h 0 0 (some (.int (N (16 + 4 * v + 1 + s)))) (fun h' => h' = h) := by
  intro post hp
  show Ev D 0 mX12_of 0 [some (.ref (78)), some (.int (nI (v))), some (.int (nI (s)))] [] h 0 0 post
  refine e_aload_n dX12_of_0 rfl ?_
  refine e_get dX12_of_1 fl_X12_9_12 hR.1 rfl ?_
  refine e_bipush (nI (16)) dX12_of_4 (by decide) ?_
  refine e_iconst (nI (4)) dX12_of_6 (by decide) ?_
  refine e_iload_n dX12_of_7 rfl ?_
  refine e_imulN dX12_of_8 ?_
  refine e_iaddN dX12_of_9 ?_
  refine e_iconst (nI (1)) dX12_of_10 (by decide) ?_
  refine e_iaddN dX12_of_11 ?_
  refine e_iload_n dX12_of_12 rfl ?_
  refine e_iaddN dX12_of_13 ?_
  refine e_ild (((16 + (4 * v)) + 1) + s) ((N (((16 + (4 * v)) + 1) + s))) dX12_of_14 hR.2.1 rfl (by omega) (by decide) rfl ?_
  exact e_iret dX12_of_15 rfl (hp _ rfl)
theorem s_placeOf (D : En) {h : AH} {N : Nat → Int32} {σ : Nat → Nat → Int32} {τ : Nat → Int32} (hR : RefAt h N σ τ) (v : Nat) (hv : v < 8) : Sp D 0 mX12_placeOf [.ref (78), .int (nI (v))] h 0 0 (some (.int (N (16 + 4 * v)))) (fun h' => h' = h) := by
  intro post hp
  show Ev D 0 mX12_placeOf 0 [some (.ref (78)), some (.int (nI (v)))] [] h 0 0 post
  refine e_aload_n dX12_placeOf_0 rfl ?_
  refine e_get dX12_placeOf_1 fl_X12_9_12 hR.1 rfl ?_
  refine e_bipush (nI (16)) dX12_placeOf_4 (by decide) ?_
  refine e_iconst (nI (4)) dX12_placeOf_6 (by decide) ?_
  refine e_iload_n dX12_placeOf_7 rfl ?_
  refine e_imulN dX12_placeOf_8 ?_
  refine e_iaddN dX12_placeOf_9 ?_
  refine e_ild (16 + (4 * v)) ((N (16 + (4 * v)))) dX12_placeOf_10 hR.2.1 rfl (by omega) (by decide) rfl ?_
  exact e_iret dX12_placeOf_11 rfl (hp _ rfl)
def allR (N : Nat → Int32) (v : Nat) : Int32 := N (16 + 4 * v + 1 + 0) + N (16 + 4 * v + 1 + 1) + N (16 + 4 * v + 1 + 2)
theorem s_allOf (D : En) {h : AH} {N : Nat → Int32} {σ : Nat → Nat → Int32} {τ : Nat → Int32} (hR : RefAt h N σ τ) (v : Nat) (hv : v < 8) : Sp D 1 mX12_allOf [.ref (78), .int (nI (v))] h 0 0 (some (.int (allR N v))) (fun h' => h' = h) := by
  intro post hp
  show Ev D 1 mX12_allOf 0 [some (.ref (78)), some (.int (nI (v)))] [] h 0 0 post
  refine e_aload_n dX12_allOf_0 rfl ?_
  refine e_iload_n dX12_allOf_1 rfl ?_
  refine e_iconst (nI (0)) dX12_allOf_2 (by decide) ?_
  refine c_V2iR (N := mX12_of) dX12_allOf_3 lv_X12_99 mo_X12_of hR.cn (Nat.le_of_ble_eq_true rfl) (Nat.le_of_ble_eq_true rfl) (by decide) (s_of D hR v 0 hv (by decide)) ?_
  refine e_aload_n dX12_allOf_6 rfl ?_
  refine e_iload_n dX12_allOf_7 rfl ?_
  refine e_iconst (nI (1)) dX12_allOf_8 (by decide) ?_
  refine c_V2iR (N := mX12_of) dX12_allOf_9 lv_X12_99 mo_X12_of hR.cn (Nat.le_of_ble_eq_true rfl) (Nat.le_of_ble_eq_true rfl) (by decide) (s_of D hR v 1 hv (by decide)) ?_
  refine e_iadd dX12_allOf_12 ?_
  refine e_aload_n dX12_allOf_13 rfl ?_
  refine e_iload_n dX12_allOf_14 rfl ?_
  refine e_iconst (nI (2)) dX12_allOf_15 (by decide) ?_
  refine c_V2iR (N := mX12_of) dX12_allOf_16 lv_X12_99 mo_X12_of hR.cn (Nat.le_of_ble_eq_true rfl) (Nat.le_of_ble_eq_true rfl) (by decide) (s_of D hR v 2 hv (by decide)) ?_
  refine e_iadd dX12_allOf_19 ?_
  exact e_iret dX12_allOf_20 rfl (hp _ rfl)
def setR (N : Nat → Int32) (v : Nat) (p y g o : Int32) : Nat → Int32 := upd (upd (upd (upd (upd N (16 + 4 * v) p) (16 + 4 * v + 1) y) (16 + 4 * v + 2) g) (16 + 4 * v + 3) o) 1 (nI (v + 1))
theorem s_settles (D : En) {h : AH} {N : Nat → Int32} {σ : Nat → Nat → Int32} {τ : Nat → Int32} (hR : RefAt h N σ τ) (v : Nat) (hv : v < 8) (hN : N 1 = nI v) (p y g o : Int32) : Sp D 0 mX12_settles [.ref (78), .int (p), .int (y), .int (g), .int (o)] h 0 0 (none) (fun h' => RefAt h' (setR N v p y g o) σ τ ∧ FrR h h') := by
  intro post hp
  show Ev D 0 mX12_settles 0 [some (.ref (78)), some (.int (p)), some (.int (y)), some (.int (g)), some (.int (o)), none] [] h 0 0 post
  have hF : FrR h h := FrR.rf
  refine e_bipush (nI (16)) dX12_settles_0 (by decide) ?_
  refine e_iconst (nI (4)) dX12_settles_2 (by decide) ?_
  refine e_aload_n dX12_settles_3 rfl ?_
  refine e_get dX12_settles_4 fl_X12_9_12 hR.1 rfl ?_
  refine e_iconst (nI (1)) dX12_settles_7 (by decide) ?_
  refine e_ild (1) (nI (v)) dX12_settles_8 hR.2.1 rfl (by omega) (by decide) hN ?_
  refine e_imulN dX12_settles_9 ?_
  refine e_iaddN dX12_settles_10 ?_
  refine e_istore dX12_settles_11 (by decide) ?_
  refine e_aload_n dX12_settles_13 rfl ?_
  refine e_get dX12_settles_14 fl_X12_9_12 hR.1 rfl ?_
  refine e_iload dX12_settles_17 rfl ?_
  refine e_iload_n dX12_settles_19 rfl ?_
  refine r_stN (16 + (4 * v)) dX12_settles_20 hR hF rfl (by omega) (fun h hR hF => ?_)
  refine e_aload_n dX12_settles_21 rfl ?_
  refine e_get dX12_settles_22 fl_X12_9_12 hR.1 rfl ?_
  refine e_iload dX12_settles_25 rfl ?_
  refine e_iconst (nI (1)) dX12_settles_27 (by decide) ?_
  refine e_iaddN dX12_settles_28 ?_
  refine e_iload_n dX12_settles_29 rfl ?_
  refine r_stN ((16 + (4 * v)) + 1) dX12_settles_30 hR hF rfl (by omega) (fun h hR hF => ?_)
  refine e_aload_n dX12_settles_31 rfl ?_
  refine e_get dX12_settles_32 fl_X12_9_12 hR.1 rfl ?_
  refine e_iload dX12_settles_35 rfl ?_
  refine e_iconst (nI (2)) dX12_settles_37 (by decide) ?_
  refine e_iaddN dX12_settles_38 ?_
  refine e_iload_n dX12_settles_39 rfl ?_
  refine r_stN ((16 + (4 * v)) + 2) dX12_settles_40 hR hF rfl (by omega) (fun h hR hF => ?_)
  refine e_aload_n dX12_settles_41 rfl ?_
  refine e_get dX12_settles_42 fl_X12_9_12 hR.1 rfl ?_
  refine e_iload dX12_settles_45 rfl ?_
  refine e_iconst (nI (3)) dX12_settles_47 (by decide) ?_
  refine e_iaddN dX12_settles_48 ?_
  refine e_iload dX12_settles_49 rfl ?_
  refine r_stN ((16 + (4 * v)) + 3) dX12_settles_51 hR hF rfl (by omega) (fun h hR hF => ?_)
  refine e_aload_n dX12_settles_52 rfl ?_
  refine e_get dX12_settles_53 fl_X12_9_12 hR.1 rfl ?_
  refine e_iconst (nI (1)) dX12_settles_56 (by decide) ?_
  refine e_dup2 dX12_settles_57 rfl rfl ?_
  refine e_ild (1) (nI (v)) dX12_settles_58 hR.2.1 rfl (by omega) (by decide) (by simp (disch := omega) only [pk_un, hN]) ?_
  refine e_iconst (nI (1)) dX12_settles_59 (by decide) ?_
  refine e_iaddN dX12_settles_60 ?_
  refine r_stN (1) dX12_settles_61 hR hF rfl (by omega) (fun h hR hF => ?_)
  exact e_vret dX12_settles_62 rfl (hp _ ⟨hR, hF⟩)
