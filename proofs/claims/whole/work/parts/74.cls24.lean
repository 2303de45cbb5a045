set_option maxRecDepth 20000 in
theorem c_within (D : En) {h : AH} (x lo hi : Int32) : Sp D 0 mX11_within [.int (x), .int (lo), .int (hi)] h 0 0 (some (.int (b2 (lo ≤ x ∧ x ≤ hi)))) (fun h' => h' = h) := by
  intro post hp
  show Ev D 0 mX11_within 0 [some (.int (x)), some (.int (lo)), some (.int (hi))] [] h 0 0 post
  refine e_iload_n dX11_within_0 rfl ?_
  refine e_iload_n dX11_within_1 rfl ?_
  refine e_icmp_lt 14 dX11_within_2 (by decide) (fun hcq2 => ?_) (fun hcq2 => ?_)
  · refine e_iconst (nI (0)) dX11_within_14 (by decide) ?_
    exact e_zret dX11_within_15 rfl (by decide) (by first | (rw [show nI 1 = b2 (lo ≤ x ∧ x ≤ hi) from (b2_t ⟨Int32.not_lt.mp hcq2, Int32.not_lt.mp hcq7⟩).symm]; exact hp _ rfl) | (rw [show nI 0 = b2 (lo ≤ x ∧ x ≤ hi) from (b2_f (fun q => Int32.not_lt.mpr q.1 hcq2)).symm]; exact hp _ rfl) | (rw [show nI 0 = b2 (lo ≤ x ∧ x ≤ hi) from (b2_f (fun q => Int32.not_lt.mpr q.2 hcq7)).symm]; exact hp _ rfl))
  · refine e_iload_n dX11_within_5 rfl ?_
    refine e_iload_n dX11_within_6 rfl ?_
    refine e_icmp_gt 14 dX11_within_7 (by decide) (fun hcq7 => ?_) (fun hcq7 => ?_)
    · refine e_iconst (nI (0)) dX11_within_14 (by decide) ?_
      exact e_zret dX11_within_15 rfl (by decide) (by first | (rw [show nI 1 = b2 (lo ≤ x ∧ x ≤ hi) from (b2_t ⟨Int32.not_lt.mp hcq2, Int32.not_lt.mp hcq7⟩).symm]; exact hp _ rfl) | (rw [show nI 0 = b2 (lo ≤ x ∧ x ≤ hi) from (b2_f (fun q => Int32.not_lt.mpr q.1 hcq2)).symm]; exact hp _ rfl) | (rw [show nI 0 = b2 (lo ≤ x ∧ x ≤ hi) from (b2_f (fun q => Int32.not_lt.mpr q.2 hcq7)).symm]; exact hp _ rfl))
    · refine e_iconst (nI (1)) dX11_within_10 (by decide) ?_
      refine e_goto 15 dX11_within_11 (by decide) ?_
      exact e_zret dX11_within_15 rfl (by decide) (by first | (rw [show nI 1 = b2 (lo ≤ x ∧ x ≤ hi) from (b2_t ⟨Int32.not_lt.mp hcq2, Int32.not_lt.mp hcq7⟩).symm]; exact hp _ rfl) | (rw [show nI 0 = b2 (lo ≤ x ∧ x ≤ hi) from (b2_f (fun q => Int32.not_lt.mpr q.1 hcq2)).symm]; exact hp _ rfl) | (rw [show nI 0 = b2 (lo ≤ x ∧ x ≤ hi) from (b2_f (fun q => Int32.not_lt.mpr q.2 hcq7)).symm]; exact hp _ rfl))
set_option maxRecDepth 20000 in
theorem c_isA (D : En) {h : AH} (x : Int32) : Sp D 1 mX11_isAhead [.int (x)] h 0 0 (some (.int (b2 (nI 0 ≤ x ∧ x ≤ nI 40)))) (fun h' => h' = h) := by
  intro post hp
  show Ev D 1 mX11_isAhead 0 [some (.int (x))] [] h 0 0 post
  refine e_iload_n dX11_isAhead_0 rfl ?_
  refine e_iconst (nI (0)) dX11_isAhead_1 (by decide) ?_
  refine e_bipush (nI (40)) dX11_isAhead_2 (by decide) ?_
  refine c_S3iR (N := mX11_within) dX11_isAhead_4 ls_X11_72 mo_X11_within  (Nat.le_of_ble_eq_true rfl) (Nat.le_of_ble_eq_true rfl) (by decide) (c_within D ((x)) (nI (0)) (nI (40))) ?_
  exact e_zretB dX11_isAhead_7 rfl (hp _ rfl)
set_option maxRecDepth 20000 in
theorem c_isV (D : En) {h : AH} {s : SS} (hC : ClsS h s) (x : Int32) : Sp D 1 mX11_isVillage [.ref (11), .int (x)] h 0 0 (some (.int (b2 (isV s x)))) (fun h' => h' = h) := by
  intro post hp
  show Ev D 1 mX11_isVillage 0 [some (.ref (11)), some (.int (x))] [] h 0 0 post
  refine e_iload_n dX11_isVillage_0 rfl ?_
  refine e_iconst (nI (0)) dX11_isVillage_1 (by decide) ?_
  refine e_aload_n dX11_isVillage_2 rfl ?_
  refine e_get dX11_isVillage_3 fl_X11_10_11 hC.1 rfl ?_
  refine e_get dX11_isVillage_6 fl_X11_58_2 hC.2.1.1 rfl ?_
  refine e_get dX11_isVillage_9 fl_X11_61_4 hC.2.1.2.1.1 rfl ?_
  refine e_iconst (nI (1)) dX11_isVillage_12 (by decide) ?_
  refine e_isub dX11_isVillage_13 ?_
  refine c_S3iR (N := mX11_within) dX11_isVillage_14 ls_X11_72 mo_X11_within  (Nat.le_of_ble_eq_true rfl) (Nat.le_of_ble_eq_true rfl) (by decide) (c_within D ((x)) (nI (0)) (((sN s 1) - nI (1)))) ?_
  exact e_zretB dX11_isVillage_17 rfl (hp _ rfl)
set_option maxRecDepth 20000 in
theorem c_isT (D : En) {h : AH} {s : SS} (hC : ClsS h s) (x : Int32) : Sp D 1 mX11_isThing [.ref (11), .int (x)] h 0 0 (some (.int (b2 (isT s x)))) (fun h' => h' = h) := by
  intro post hp
  show Ev D 1 mX11_isThing 0 [some (.ref (11)), some (.int (x))] [] h 0 0 post
  refine e_iload_n dX11_isThing_0 rfl ?_
  refine e_iconst (nI (0)) dX11_isThing_1 (by decide) ?_
  refine e_aload_n dX11_isThing_2 rfl ?_
  refine e_get dX11_isThing_3 fl_X11_10_11 hC.1 rfl ?_
  refine e_get dX11_isThing_6 fl_X11_58_2 hC.2.1.1 rfl ?_
  refine e_get dX11_isThing_9 fl_X11_120_4 hC.2.1.2.1.1 rfl ?_
  refine e_iconst (nI (1)) dX11_isThing_12 (by decide) ?_
  refine e_isub dX11_isThing_13 ?_
  refine c_S3iR (N := mX11_within) dX11_isThing_14 ls_X11_72 mo_X11_within  (Nat.le_of_ble_eq_true rfl) (Nat.le_of_ble_eq_true rfl) (by decide) (c_within D ((x)) (nI (0)) (((sN s 2) - nI (1)))) ?_
  exact e_zretB dX11_isThing_17 rfl (hp _ rfl)
set_option maxRecDepth 20000 in
theorem c_isS (D : En) {h : AH} {s : SS} (hC : ClsS h s) (x : Int32) : Sp D 1 mX11_isSheet [.ref (11), .int (x)] h 0 0 (some (.int (b2 (nI 0 ≤ x ∧ x ≤ nI 3)))) (fun h' => h' = h) := by
  intro post hp
  show Ev D 1 mX11_isSheet 0 [some (.ref (11)), some (.int (x))] [] h 0 0 post
  refine e_iload_n dX11_isSheet_0 rfl ?_
  refine e_iconst (nI (0)) dX11_isSheet_1 (by decide) ?_
  refine e_aload_n dX11_isSheet_2 rfl ?_
  refine e_get dX11_isSheet_3 fl_X11_35_11 hC.1 rfl ?_
  obtain ⟨T66, hT66, eT66⟩ := hC.2.2.2.2.2.1
  refine e_alenQ dX11_isSheet_6 hT66 (Or.inr (Or.inr (Or.inl rfl))) ?_
  refine e_top (nI 4) (by decide) ?_
  refine e_iconst (nI (1)) dX11_isSheet_7 (by decide) ?_
  refine e_isubN dX11_isSheet_8 (by decide) ?_
  refine e_top (nI 3) (by decide) ?_
  refine c_S3iR (N := mX11_within) dX11_isSheet_9 ls_X11_72 mo_X11_within  (Nat.le_of_ble_eq_true rfl) (Nat.le_of_ble_eq_true rfl) (by decide) (c_within D ((x)) (nI (0)) (nI (3))) ?_
  exact e_zretB dX11_isSheet_12 rfl (hp _ rfl)
theorem told_eq {p : Int32} (h0 : ¬ p < 0) : (p / nI 100 ≤ nI 30 ∧ p - p / nI 100 * nI 100 ≤ nI 30) ↔ ((nI 0 ≤ p ∧ p ≤ nI 3030) ∧ p - p / nI 100 * nI 100 ≤ nI 30) := by
  have hp0 : (0 : Int32) ≤ p := Int32.not_lt.mp h0
  have e1 : p = nI (tn p) := by
    unfold nI tn
    rw [Int32.ofNat_toNatClampNeg _ hp0]
  have hx : tn p < 2 ^ 31 := by
    have h3 := p.toInt_lt
    unfold tn
    show p.toInt.toNat < _
    omega
  have ed : p / nI 100 = nI (tn p / 100) := by
    conv => lhs; rw [e1]
    exact pk_div hx (by decide) (by decide)
  have em : p - p / nI 100 * nI 100 = nI (tn p % 100) := by
    conv => lhs; rw [e1]
    exact pk_rem hx (by decide) (by decide)
  rw [em, ed, nI_leI (by omega) (by decide), nI_leI (by omega) (by decide)]
  constructor
  · rintro ⟨a, b⟩
    refine ⟨⟨hp0, ?_⟩, b⟩
    rw [e1, nI_leI hx (by decide)]
    omega
  · rintro ⟨⟨a, b⟩, c⟩
    refine ⟨?_, c⟩
    rw [e1, nI_leI hx (by decide)] at b
    omega
set_option maxRecDepth 20000 in
theorem c_told (D : En) {h : AH} (p y g o : Int32) : Sp D 1 mX11_isVillageAsTold [.int (p), .int (y), .int (g), .int (o)] h 0 0 (some (.int (b2 (toldR p y g o)))) (fun h' => h' = h) := by
  intro post hp
  show Ev D 1 mX11_isVillageAsTold 0 [some (.int (p)), some (.int (y)), some (.int (g)), some (.int (o))] [] h 0 0 post
  refine e_iload_n dX11_isVillageAsTold_0 rfl ?_
  have K1 : Ev D 1 mX11_isVillageAsTold 57 [some (.int (p)), some (.int (y)), some (.int (g)), some (.int (o))] [.int (b2 (toldR p y g o))] h 0 0 post := by
    exact e_zretB dX11_isVillageAsTold_57 rfl (hp _ rfl)
  refine e_if_lt 56 dX11_isVillageAsTold_1 (by decide) (fun hcq1 => ?_) (fun hcq1 => ?_)
  · refine e_iconst (nI (0)) dX11_isVillageAsTold_56 (by decide) ?_
    exact e_top (b2 (toldR p y g o)) (by first | exact (b2_t ⟨((told_eq hcq1).mp ⟨Int32.not_lt.mp hcq10, Int32.not_lt.mp hcq19⟩).1, Int32.not_lt.mp hcq19, hcq29, hcq39, hcq49⟩).symm | exact (b2_f (fun q => Int32.not_lt.mpr q.1.1 hcq1)).symm | exact (b2_f (fun q => Int32.not_lt.mpr ((told_eq hcq1).mpr ⟨q.1, q.2.1⟩).1 hcq10)).symm | exact (b2_f (fun q => Int32.not_lt.mpr q.2.1 hcq19)).symm | exact (b2_f (fun q => hcq29 q.2.2.1)).symm | exact (b2_f (fun q => hcq39 q.2.2.2.1)).symm | exact (b2_f (fun q => hcq49 q.2.2.2.2)).symm) K1
  · refine e_iload_n dX11_isVillageAsTold_4 rfl ?_
    refine e_bipush (nI (100)) dX11_isVillageAsTold_5 (by decide) ?_
    refine e_idiv dX11_isVillageAsTold_7 (by decide) ?_
    refine e_bipush (nI (30)) dX11_isVillageAsTold_8 (by decide) ?_
    refine e_icmp_gt 56 dX11_isVillageAsTold_10 (by decide) (fun hcq10 => ?_) (fun hcq10 => ?_)
    · refine e_iconst (nI (0)) dX11_isVillageAsTold_56 (by decide) ?_
      exact e_top (b2 (toldR p y g o)) (by first | exact (b2_t ⟨((told_eq hcq1).mp ⟨Int32.not_lt.mp hcq10, Int32.not_lt.mp hcq19⟩).1, Int32.not_lt.mp hcq19, hcq29, hcq39, hcq49⟩).symm | exact (b2_f (fun q => Int32.not_lt.mpr q.1.1 hcq1)).symm | exact (b2_f (fun q => Int32.not_lt.mpr ((told_eq hcq1).mpr ⟨q.1, q.2.1⟩).1 hcq10)).symm | exact (b2_f (fun q => Int32.not_lt.mpr q.2.1 hcq19)).symm | exact (b2_f (fun q => hcq29 q.2.2.1)).symm | exact (b2_f (fun q => hcq39 q.2.2.2.1)).symm | exact (b2_f (fun q => hcq49 q.2.2.2.2)).symm) K1
    · refine e_iload_n dX11_isVillageAsTold_13 rfl ?_
      refine e_bipush (nI (100)) dX11_isVillageAsTold_14 (by decide) ?_
      refine e_irem dX11_isVillageAsTold_16 (by decide) ?_
      refine e_bipush (nI (30)) dX11_isVillageAsTold_17 (by decide) ?_
      refine e_icmp_gt 56 dX11_isVillageAsTold_19 (by decide) (fun hcq19 => ?_) (fun hcq19 => ?_)
      · refine e_iconst (nI (0)) dX11_isVillageAsTold_56 (by decide) ?_
        exact e_top (b2 (toldR p y g o)) (by first | exact (b2_t ⟨((told_eq hcq1).mp ⟨Int32.not_lt.mp hcq10, Int32.not_lt.mp hcq19⟩).1, Int32.not_lt.mp hcq19, hcq29, hcq39, hcq49⟩).symm | exact (b2_f (fun q => Int32.not_lt.mpr q.1.1 hcq1)).symm | exact (b2_f (fun q => Int32.not_lt.mpr ((told_eq hcq1).mpr ⟨q.1, q.2.1⟩).1 hcq10)).symm | exact (b2_f (fun q => Int32.not_lt.mpr q.2.1 hcq19)).symm | exact (b2_f (fun q => hcq29 q.2.2.1)).symm | exact (b2_f (fun q => hcq39 q.2.2.2.1)).symm | exact (b2_f (fun q => hcq49 q.2.2.2.2)).symm) K1
      · refine e_iload_n dX11_isVillageAsTold_22 rfl ?_
        refine e_iconst (nI (0)) dX11_isVillageAsTold_23 (by decide) ?_
        refine e_ldc dX11_isVillageAsTold_24 w_273 ?_
        refine e_top (nI 99999) (by decide) ?_
        refine c_S3iR (N := mX11_within) dX11_isVillageAsTold_26 ls_X11_72 mo_X11_within  (Nat.le_of_ble_eq_true rfl) (Nat.le_of_ble_eq_true rfl) (by decide) (c_within D ((y)) (nI (0)) (nI (99999))) ?_
        refine e_if_eqB 56 dX11_isVillageAsTold_29 (by decide) (fun hcq29 => ?_) (fun hcq29 => ?_)
        · refine e_iconst (nI (0)) dX11_isVillageAsTold_56 (by decide) ?_
          exact e_top (b2 (toldR p y g o)) (by first | exact (b2_t ⟨((told_eq hcq1).mp ⟨Int32.not_lt.mp hcq10, Int32.not_lt.mp hcq19⟩).1, Int32.not_lt.mp hcq19, hcq29, hcq39, hcq49⟩).symm | exact (b2_f (fun q => Int32.not_lt.mpr q.1.1 hcq1)).symm | exact (b2_f (fun q => Int32.not_lt.mpr ((told_eq hcq1).mpr ⟨q.1, q.2.1⟩).1 hcq10)).symm | exact (b2_f (fun q => Int32.not_lt.mpr q.2.1 hcq19)).symm | exact (b2_f (fun q => hcq29 q.2.2.1)).symm | exact (b2_f (fun q => hcq39 q.2.2.2.1)).symm | exact (b2_f (fun q => hcq49 q.2.2.2.2)).symm) K1
        · obtain ⟨hn_y, hg_y, hl_y⟩ := wiN hcq29 (by decide) (by decide)
          refine e_iload_n dX11_isVillageAsTold_32 rfl ?_
          refine e_iconst (nI (0)) dX11_isVillageAsTold_33 (by decide) ?_
          refine e_ldc dX11_isVillageAsTold_34 w_273 ?_
          refine e_top (nI 99999) (by decide) ?_
          refine c_S3iR (N := mX11_within) dX11_isVillageAsTold_36 ls_X11_72 mo_X11_within  (Nat.le_of_ble_eq_true rfl) (Nat.le_of_ble_eq_true rfl) (by decide) (c_within D ((g)) (nI (0)) (nI (99999))) ?_
          refine e_if_eqB 56 dX11_isVillageAsTold_39 (by decide) (fun hcq39 => ?_) (fun hcq39 => ?_)
          · refine e_iconst (nI (0)) dX11_isVillageAsTold_56 (by decide) ?_
            exact e_top (b2 (toldR p y g o)) (by first | exact (b2_t ⟨((told_eq hcq1).mp ⟨Int32.not_lt.mp hcq10, Int32.not_lt.mp hcq19⟩).1, Int32.not_lt.mp hcq19, hcq29, hcq39, hcq49⟩).symm | exact (b2_f (fun q => Int32.not_lt.mpr q.1.1 hcq1)).symm | exact (b2_f (fun q => Int32.not_lt.mpr ((told_eq hcq1).mpr ⟨q.1, q.2.1⟩).1 hcq10)).symm | exact (b2_f (fun q => Int32.not_lt.mpr q.2.1 hcq19)).symm | exact (b2_f (fun q => hcq29 q.2.2.1)).symm | exact (b2_f (fun q => hcq39 q.2.2.2.1)).symm | exact (b2_f (fun q => hcq49 q.2.2.2.2)).symm) K1
          · obtain ⟨hn_g, hg_g, hl_g⟩ := wiN hcq39 (by decide) (by decide)
            refine e_iload_n dX11_isVillageAsTold_42 rfl ?_
            refine e_iconst (nI (0)) dX11_isVillageAsTold_43 (by decide) ?_
            refine e_ldc dX11_isVillageAsTold_44 w_273 ?_
            refine e_top (nI 99999) (by decide) ?_
            refine c_S3iR (N := mX11_within) dX11_isVillageAsTold_46 ls_X11_72 mo_X11_within  (Nat.le_of_ble_eq_true rfl) (Nat.le_of_ble_eq_true rfl) (by decide) (c_within D ((o)) (nI (0)) (nI (99999))) ?_
            refine e_if_eqB 56 dX11_isVillageAsTold_49 (by decide) (fun hcq49 => ?_) (fun hcq49 => ?_)
            · refine e_iconst (nI (0)) dX11_isVillageAsTold_56 (by decide) ?_
              exact e_top (b2 (toldR p y g o)) (by first | exact (b2_t ⟨((told_eq hcq1).mp ⟨Int32.not_lt.mp hcq10, Int32.not_lt.mp hcq19⟩).1, Int32.not_lt.mp hcq19, hcq29, hcq39, hcq49⟩).symm | exact (b2_f (fun q => Int32.not_lt.mpr q.1.1 hcq1)).symm | exact (b2_f (fun q => Int32.not_lt.mpr ((told_eq hcq1).mpr ⟨q.1, q.2.1⟩).1 hcq10)).symm | exact (b2_f (fun q => Int32.not_lt.mpr q.2.1 hcq19)).symm | exact (b2_f (fun q => hcq29 q.2.2.1)).symm | exact (b2_f (fun q => hcq39 q.2.2.2.1)).symm | exact (b2_f (fun q => hcq49 q.2.2.2.2)).symm) K1
            · obtain ⟨hn_o, hg_o, hl_o⟩ := wiN hcq49 (by decide) (by decide)
              refine e_iconst (nI (1)) dX11_isVillageAsTold_52 (by decide) ?_
              refine e_goto 57 dX11_isVillageAsTold_53 (by decide) ?_
              exact e_top (b2 (toldR p y g o)) (by first | exact (b2_t ⟨((told_eq hcq1).mp ⟨Int32.not_lt.mp hcq10, Int32.not_lt.mp hcq19⟩).1, Int32.not_lt.mp hcq19, hcq29, hcq39, hcq49⟩).symm | exact (b2_f (fun q => Int32.not_lt.mpr q.1.1 hcq1)).symm | exact (b2_f (fun q => Int32.not_lt.mpr ((told_eq hcq1).mpr ⟨q.1, q.2.1⟩).1 hcq10)).symm | exact (b2_f (fun q => Int32.not_lt.mpr q.2.1 hcq19)).symm | exact (b2_f (fun q => hcq29 q.2.2.1)).symm | exact (b2_f (fun q => hcq39 q.2.2.2.1)).symm | exact (b2_f (fun q => hcq49 q.2.2.2.2)).symm) K1
set_option maxRecDepth 20000 in
theorem c_error (D : En) {h : AH} {s : SS} (hC : ClsS h s) (k : Nat) (hk : k < 6) : Sp D 0 mX11_error [.ref 11, .int (nI k)] h 0 0 (some (.int (lowE k))) (fun h' => ClsS h' (er k s).2 ∧ FrC h h') := by
  intro post hp
  show Ev D 0 mX11_error 0 [some (.ref 11), some (.int (nI k))] [] h 0 0 post
  refine e_aload_n dX11_error_0 rfl ?_
  refine e_get dX11_error_1 fl_X11_46_11 hC.1 rfl ?_
  refine e_iload_n dX11_error_4 rfl ?_
  refine e_dup2 dX11_error_5 rfl rfl ?_
  refine e_ild k (sE s k) dX11_error_6 hC.er_ rfl (by omega) (by decide) rfl ?_
  refine e_iconst (nI 1) dX11_error_7 (by decide) ?_
  refine e_iadd dX11_error_8 ?_
  refine e_ist k dX11_error_9 hC.er_ rfl (by omega) (by decide) ?_
  refine e_ldcw dX11_error_10 w_281 ?_
  refine e_iload_n dX11_error_13 rfl ?_
  refine e_isub dX11_error_14 ?_
  exact e_iret dX11_error_15 rfl (hp _ ⟨hC.set_er _, FrC.rf.set (by decide) (by decide)⟩)
