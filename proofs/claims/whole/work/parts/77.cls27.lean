set_option maxRecDepth 20000 in
theorem kn_X9_9 (D : En) {h : AH} {b t : Nat} {N : Nat → Int32} (hb : h[b]? = some (.inr (9, tgF N t))) : Sp D 0 mX9_kindNumber [.ref b] h 0 0 (some (.int (nI 0))) (fun h' => h' = h) := by
  intro post hp
  show Ev D 0 mX9_kindNumber 0 [some (.ref (b))] [] h 0 0 post
  refine e_iconst (nI (0)) dX9_kindNumber_0 (by decide) ?_
  exact e_iret dX9_kindNumber_1 rfl (hp _ rfl)
set_option maxRecDepth 20000 in
theorem kn_X7_7 (D : En) {h : AH} {b t : Nat} {N : Nat → Int32} (hb : h[b]? = some (.inr (7, tgF N t))) : Sp D 0 mX7_kindNumber [.ref b] h 0 0 (some (.int (nI 1))) (fun h' => h' = h) := by
  intro post hp
  show Ev D 0 mX7_kindNumber 0 [some (.ref (b))] [] h 0 0 post
  refine e_iconst (nI (1)) dX7_kindNumber_0 (by decide) ?_
  exact e_iret dX7_kindNumber_1 rfl (hp _ rfl)
set_option maxRecDepth 20000 in
theorem kn_X8_8 (D : En) {h : AH} {b t : Nat} {N : Nat → Int32} (hb : h[b]? = some (.inr (8, tgF N t))) : Sp D 0 mX8_kindNumber [.ref b] h 0 0 (some (.int (nI 2))) (fun h' => h' = h) := by
  intro post hp
  show Ev D 0 mX8_kindNumber 0 [some (.ref (b))] [] h 0 0 post
  refine e_iconst (nI (2)) dX8_kindNumber_0 (by decide) ?_
  exact e_iret dX8_kindNumber_1 rfl (hp _ rfl)
set_option maxRecDepth 20000 in
theorem kn_X3_3 (D : En) {h : AH} {b t : Nat} {N : Nat → Int32} (hb : h[b]? = some (.inr (3, tgF N t))) : Sp D 0 mX3_kindNumber [.ref b] h 0 0 (some (.int (nI 3))) (fun h' => h' = h) := by
  intro post hp
  show Ev D 0 mX3_kindNumber 0 [some (.ref (b))] [] h 0 0 post
  refine e_iconst (nI (3)) dX3_kindNumber_0 (by decide) ?_
  exact e_iret dX3_kindNumber_1 rfl (hp _ rfl)
set_option maxRecDepth 20000 in
theorem kn_X1_1 (D : En) {h : AH} {b t : Nat} {N : Nat → Int32} (hb : h[b]? = some (.inr (1, tgF N t))) : Sp D 0 mX1_kindNumber [.ref b] h 0 0 (some (.int (nI 4))) (fun h' => h' = h) := by
  intro post hp
  show Ev D 0 mX1_kindNumber 0 [some (.ref (b))] [] h 0 0 post
  refine e_iconst (nI (4)) dX1_kindNumber_0 (by decide) ?_
  exact e_iret dX1_kindNumber_1 rfl (hp _ rfl)
set_option maxRecDepth 20000 in
theorem kn_X10_10 (D : En) {h : AH} {b t : Nat} {N : Nat → Int32} (hb : h[b]? = some (.inr (10, tgF N t))) : Sp D 0 mX10_kindNumber [.ref b] h 0 0 (some (.int (nI 5))) (fun h' => h' = h) := by
  intro post hp
  show Ev D 0 mX10_kindNumber 0 [some (.ref (b))] [] h 0 0 post
  refine e_iconst (nI (5)) dX10_kindNumber_0 (by decide) ?_
  exact e_iret dX10_kindNumber_1 rfl (hp _ rfl)
set_option maxRecDepth 20000 in
theorem kn_X0_0 (D : En) {h : AH} {b t : Nat} {N : Nat → Int32} (hb : h[b]? = some (.inr (0, tgF N t))) : Sp D 0 mX0_kindNumber [.ref b] h 0 0 (some (.int (nI 6))) (fun h' => h' = h) := by
  intro post hp
  show Ev D 0 mX0_kindNumber 0 [some (.ref (b))] [] h 0 0 post
  refine e_bipush (nI (6)) dX0_kindNumber_0 (by decide) ?_
  exact e_iret dX0_kindNumber_2 rfl (hp _ rfl)
set_option maxRecDepth 20000 in
theorem io_X9_9 (D : En) {h : AH} {b t : Nat} {N : Nat → Int32} (hb : h[b]? = some (.inr (9, tgF N t))) (k : Nat) (hk : k < 7) : Sp D 0 mX9_isOf [.ref b, .int (nI k)] h 0 0 (some (.int (b2 (k ∈ upK 0)))) (fun h' => h' = h) := by
  intro post hp
  show Ev D 0 mX9_isOf 0 [some (.ref (b)), some (.int (nI (k)))] [] h 0 0 post
  refine e_iload_n dX9_isOf_0 rfl ?_
  refine e_if_neN 8 dX9_isOf_1 (by decide) (by omega) (fun hcq1 => ?_) (fun hcq1 => ?_)
  · refine e_iconst (nI (0)) dX9_isOf_8 (by decide) ?_
    first | exact e_top _ (b2_t (P := k ∈ upK 0) (by rw [hcq1]; decide)).symm (e_zretB dX9_isOf_9 rfl (hp _ rfl)) | exact e_top _ (b2_f (P := k ∈ upK 0) (fun q => hcq1 (List.mem_singleton.mp q))).symm (e_zretB dX9_isOf_9 rfl (hp _ rfl))
  · refine e_iconst (nI (1)) dX9_isOf_4 (by decide) ?_
    refine e_goto 9 dX9_isOf_5 (by decide) ?_
    first | exact e_top _ (b2_t (P := k ∈ upK 0) (by rw [hcq1]; decide)).symm (e_zretB dX9_isOf_9 rfl (hp _ rfl)) | exact e_top _ (b2_f (P := k ∈ upK 0) (fun q => hcq1 (List.mem_singleton.mp q))).symm (e_zretB dX9_isOf_9 rfl (hp _ rfl))
set_option maxRecDepth 20000 in
theorem io_X9_7 (D : En) {h : AH} {b t : Nat} {N : Nat → Int32} (hb : h[b]? = some (.inr (7, tgF N t))) (k : Nat) (hk : k < 7) : Sp D 0 mX9_isOf [.ref b, .int (nI k)] h 0 0 (some (.int (b2 (k ∈ upK 0)))) (fun h' => h' = h) := by
  intro post hp
  show Ev D 0 mX9_isOf 0 [some (.ref (b)), some (.int (nI (k)))] [] h 0 0 post
  refine e_iload_n dX9_isOf_0 rfl ?_
  refine e_if_neN 8 dX9_isOf_1 (by decide) (by omega) (fun hcq1 => ?_) (fun hcq1 => ?_)
  · refine e_iconst (nI (0)) dX9_isOf_8 (by decide) ?_
    first | exact e_top _ (b2_t (P := k ∈ upK 0) (by rw [hcq1]; decide)).symm (e_zretB dX9_isOf_9 rfl (hp _ rfl)) | exact e_top _ (b2_f (P := k ∈ upK 0) (fun q => hcq1 (List.mem_singleton.mp q))).symm (e_zretB dX9_isOf_9 rfl (hp _ rfl))
  · refine e_iconst (nI (1)) dX9_isOf_4 (by decide) ?_
    refine e_goto 9 dX9_isOf_5 (by decide) ?_
    first | exact e_top _ (b2_t (P := k ∈ upK 0) (by rw [hcq1]; decide)).symm (e_zretB dX9_isOf_9 rfl (hp _ rfl)) | exact e_top _ (b2_f (P := k ∈ upK 0) (fun q => hcq1 (List.mem_singleton.mp q))).symm (e_zretB dX9_isOf_9 rfl (hp _ rfl))
set_option maxRecDepth 20000 in
theorem io_X7_7 (D : En) {h : AH} {b t : Nat} {N : Nat → Int32} (hb : h[b]? = some (.inr (7, tgF N t))) (k : Nat) (hk : k < 7) : Sp D 1 mX7_isOf [.ref b, .int (nI k)] h 0 0 (some (.int (b2 (k ∈ upK 1)))) (fun h' => h' = h) := by
  intro post hp
  show Ev D 1 mX7_isOf 0 [some (.ref (b)), some (.int (nI (k)))] [] h 0 0 post
  refine e_iload_n dX7_isOf_0 rfl ?_
  refine e_iconst (nI (1)) dX7_isOf_1 (by decide) ?_
  refine e_icmp_eqN 13 dX7_isOf_2 (by decide) (by omega) (by omega) (fun hcq2 => ?_) (fun hcq2 => ?_)
  · refine e_iconst (nI (1)) dX7_isOf_13 (by decide) ?_
    refine e_goto 18 dX7_isOf_14 (by decide) ?_
    first | exact e_top _ (b2_t (P := k ∈ upK 1) (by rw [hcq2]; decide)).symm (e_zretB dX7_isOf_18 rfl (hp _ rfl)) | exact e_top _ (b2_t (P := k ∈ upK 1) (List.mem_cons_of_mem 1 hcq10)).symm (e_zretB dX7_isOf_18 rfl (hp _ rfl)) | exact e_top _ (b2_f (P := k ∈ upK 1) (fun q => (List.mem_cons.mp (show k ∈ 1 :: upK 0 from q)).elim hcq2 hcq10)).symm (e_zretB dX7_isOf_18 rfl (hp _ rfl))
  · refine e_aload_n dX7_isOf_5 rfl ?_
    refine e_iload_n dX7_isOf_6 rfl ?_
    refine c_U1iR (N := mX9_isOf) dX7_isOf_7 lu_X7_9 mo_X9_isOf hb rfl (Nat.le_of_ble_eq_true rfl) (Nat.le_of_ble_eq_true rfl) (by decide) (io_X9_7 D hb k hk) ?_
    refine e_if_eqB 17 dX7_isOf_10 (by decide) (fun hcq10 => ?_) (fun hcq10 => ?_)
    · refine e_iconst (nI (0)) dX7_isOf_17 (by decide) ?_
      first | exact e_top _ (b2_t (P := k ∈ upK 1) (by rw [hcq2]; decide)).symm (e_zretB dX7_isOf_18 rfl (hp _ rfl)) | exact e_top _ (b2_t (P := k ∈ upK 1) (List.mem_cons_of_mem 1 hcq10)).symm (e_zretB dX7_isOf_18 rfl (hp _ rfl)) | exact e_top _ (b2_f (P := k ∈ upK 1) (fun q => (List.mem_cons.mp (show k ∈ 1 :: upK 0 from q)).elim hcq2 hcq10)).symm (e_zretB dX7_isOf_18 rfl (hp _ rfl))
    · refine e_iconst (nI (1)) dX7_isOf_13 (by decide) ?_
      refine e_goto 18 dX7_isOf_14 (by decide) ?_
      first | exact e_top _ (b2_t (P := k ∈ upK 1) (by rw [hcq2]; decide)).symm (e_zretB dX7_isOf_18 rfl (hp _ rfl)) | exact e_top _ (b2_t (P := k ∈ upK 1) (List.mem_cons_of_mem 1 hcq10)).symm (e_zretB dX7_isOf_18 rfl (hp _ rfl)) | exact e_top _ (b2_f (P := k ∈ upK 1) (fun q => (List.mem_cons.mp (show k ∈ 1 :: upK 0 from q)).elim hcq2 hcq10)).symm (e_zretB dX7_isOf_18 rfl (hp _ rfl))
set_option maxRecDepth 20000 in
theorem io_X9_8 (D : En) {h : AH} {b t : Nat} {N : Nat → Int32} (hb : h[b]? = some (.inr (8, tgF N t))) (k : Nat) (hk : k < 7) : Sp D 0 mX9_isOf [.ref b, .int (nI k)] h 0 0 (some (.int (b2 (k ∈ upK 0)))) (fun h' => h' = h) := by
  intro post hp
  show Ev D 0 mX9_isOf 0 [some (.ref (b)), some (.int (nI (k)))] [] h 0 0 post
  refine e_iload_n dX9_isOf_0 rfl ?_
  refine e_if_neN 8 dX9_isOf_1 (by decide) (by omega) (fun hcq1 => ?_) (fun hcq1 => ?_)
  · refine e_iconst (nI (0)) dX9_isOf_8 (by decide) ?_
    first | exact e_top _ (b2_t (P := k ∈ upK 0) (by rw [hcq1]; decide)).symm (e_zretB dX9_isOf_9 rfl (hp _ rfl)) | exact e_top _ (b2_f (P := k ∈ upK 0) (fun q => hcq1 (List.mem_singleton.mp q))).symm (e_zretB dX9_isOf_9 rfl (hp _ rfl))
  · refine e_iconst (nI (1)) dX9_isOf_4 (by decide) ?_
    refine e_goto 9 dX9_isOf_5 (by decide) ?_
    first | exact e_top _ (b2_t (P := k ∈ upK 0) (by rw [hcq1]; decide)).symm (e_zretB dX9_isOf_9 rfl (hp _ rfl)) | exact e_top _ (b2_f (P := k ∈ upK 0) (fun q => hcq1 (List.mem_singleton.mp q))).symm (e_zretB dX9_isOf_9 rfl (hp _ rfl))
set_option maxRecDepth 20000 in
theorem io_X8_8 (D : En) {h : AH} {b t : Nat} {N : Nat → Int32} (hb : h[b]? = some (.inr (8, tgF N t))) (k : Nat) (hk : k < 7) : Sp D 1 mX8_isOf [.ref b, .int (nI k)] h 0 0 (some (.int (b2 (k ∈ upK 2)))) (fun h' => h' = h) := by
  intro post hp
  show Ev D 1 mX8_isOf 0 [some (.ref (b)), some (.int (nI (k)))] [] h 0 0 post
  refine e_iload_n dX8_isOf_0 rfl ?_
  refine e_iconst (nI (2)) dX8_isOf_1 (by decide) ?_
  refine e_icmp_eqN 13 dX8_isOf_2 (by decide) (by omega) (by omega) (fun hcq2 => ?_) (fun hcq2 => ?_)
  · refine e_iconst (nI (1)) dX8_isOf_13 (by decide) ?_
    refine e_goto 18 dX8_isOf_14 (by decide) ?_
    first | exact e_top _ (b2_t (P := k ∈ upK 2) (by rw [hcq2]; decide)).symm (e_zretB dX8_isOf_18 rfl (hp _ rfl)) | exact e_top _ (b2_t (P := k ∈ upK 2) (List.mem_cons_of_mem 2 hcq10)).symm (e_zretB dX8_isOf_18 rfl (hp _ rfl)) | exact e_top _ (b2_f (P := k ∈ upK 2) (fun q => (List.mem_cons.mp (show k ∈ 2 :: upK 0 from q)).elim hcq2 hcq10)).symm (e_zretB dX8_isOf_18 rfl (hp _ rfl))
  · refine e_aload_n dX8_isOf_5 rfl ?_
    refine e_iload_n dX8_isOf_6 rfl ?_
    refine c_U1iR (N := mX9_isOf) dX8_isOf_7 lu_X8_9 mo_X9_isOf hb rfl (Nat.le_of_ble_eq_true rfl) (Nat.le_of_ble_eq_true rfl) (by decide) (io_X9_8 D hb k hk) ?_
    refine e_if_eqB 17 dX8_isOf_10 (by decide) (fun hcq10 => ?_) (fun hcq10 => ?_)
    · refine e_iconst (nI (0)) dX8_isOf_17 (by decide) ?_
      first | exact e_top _ (b2_t (P := k ∈ upK 2) (by rw [hcq2]; decide)).symm (e_zretB dX8_isOf_18 rfl (hp _ rfl)) | exact e_top _ (b2_t (P := k ∈ upK 2) (List.mem_cons_of_mem 2 hcq10)).symm (e_zretB dX8_isOf_18 rfl (hp _ rfl)) | exact e_top _ (b2_f (P := k ∈ upK 2) (fun q => (List.mem_cons.mp (show k ∈ 2 :: upK 0 from q)).elim hcq2 hcq10)).symm (e_zretB dX8_isOf_18 rfl (hp _ rfl))
    · refine e_iconst (nI (1)) dX8_isOf_13 (by decide) ?_
      refine e_goto 18 dX8_isOf_14 (by decide) ?_
      first | exact e_top _ (b2_t (P := k ∈ upK 2) (by rw [hcq2]; decide)).symm (e_zretB dX8_isOf_18 rfl (hp _ rfl)) | exact e_top _ (b2_t (P := k ∈ upK 2) (List.mem_cons_of_mem 2 hcq10)).symm (e_zretB dX8_isOf_18 rfl (hp _ rfl)) | exact e_top _ (b2_f (P := k ∈ upK 2) (fun q => (List.mem_cons.mp (show k ∈ 2 :: upK 0 from q)).elim hcq2 hcq10)).symm (e_zretB dX8_isOf_18 rfl (hp _ rfl))
set_option maxRecDepth 20000 in
theorem io_X9_3 (D : En) {h : AH} {b t : Nat} {N : Nat → Int32} (hb : h[b]? = some (.inr (3, tgF N t))) (k : Nat) (hk : k < 7) : Sp D 0 mX9_isOf [.ref b, .int (nI k)] h 0 0 (some (.int (b2 (k ∈ upK 0)))) (fun h' => h' = h) := by
  intro post hp
  show Ev D 0 mX9_isOf 0 [some (.ref (b)), some (.int (nI (k)))] [] h 0 0 post
  refine e_iload_n dX9_isOf_0 rfl ?_
  refine e_if_neN 8 dX9_isOf_1 (by decide) (by omega) (fun hcq1 => ?_) (fun hcq1 => ?_)
  · refine e_iconst (nI (0)) dX9_isOf_8 (by decide) ?_
    first | exact e_top _ (b2_t (P := k ∈ upK 0) (by rw [hcq1]; decide)).symm (e_zretB dX9_isOf_9 rfl (hp _ rfl)) | exact e_top _ (b2_f (P := k ∈ upK 0) (fun q => hcq1 (List.mem_singleton.mp q))).symm (e_zretB dX9_isOf_9 rfl (hp _ rfl))
  · refine e_iconst (nI (1)) dX9_isOf_4 (by decide) ?_
    refine e_goto 9 dX9_isOf_5 (by decide) ?_
    first | exact e_top _ (b2_t (P := k ∈ upK 0) (by rw [hcq1]; decide)).symm (e_zretB dX9_isOf_9 rfl (hp _ rfl)) | exact e_top _ (b2_f (P := k ∈ upK 0) (fun q => hcq1 (List.mem_singleton.mp q))).symm (e_zretB dX9_isOf_9 rfl (hp _ rfl))
set_option maxRecDepth 20000 in
theorem io_X8_3 (D : En) {h : AH} {b t : Nat} {N : Nat → Int32} (hb : h[b]? = some (.inr (3, tgF N t))) (k : Nat) (hk : k < 7) : Sp D 1 mX8_isOf [.ref b, .int (nI k)] h 0 0 (some (.int (b2 (k ∈ upK 2)))) (fun h' => h' = h) := by
  intro post hp
  show Ev D 1 mX8_isOf 0 [some (.ref (b)), some (.int (nI (k)))] [] h 0 0 post
  refine e_iload_n dX8_isOf_0 rfl ?_
  refine e_iconst (nI (2)) dX8_isOf_1 (by decide) ?_
  refine e_icmp_eqN 13 dX8_isOf_2 (by decide) (by omega) (by omega) (fun hcq2 => ?_) (fun hcq2 => ?_)
  · refine e_iconst (nI (1)) dX8_isOf_13 (by decide) ?_
    refine e_goto 18 dX8_isOf_14 (by decide) ?_
    first | exact e_top _ (b2_t (P := k ∈ upK 2) (by rw [hcq2]; decide)).symm (e_zretB dX8_isOf_18 rfl (hp _ rfl)) | exact e_top _ (b2_t (P := k ∈ upK 2) (List.mem_cons_of_mem 2 hcq10)).symm (e_zretB dX8_isOf_18 rfl (hp _ rfl)) | exact e_top _ (b2_f (P := k ∈ upK 2) (fun q => (List.mem_cons.mp (show k ∈ 2 :: upK 0 from q)).elim hcq2 hcq10)).symm (e_zretB dX8_isOf_18 rfl (hp _ rfl))
  · refine e_aload_n dX8_isOf_5 rfl ?_
    refine e_iload_n dX8_isOf_6 rfl ?_
    refine c_U1iR (N := mX9_isOf) dX8_isOf_7 lu_X8_9 mo_X9_isOf hb rfl (Nat.le_of_ble_eq_true rfl) (Nat.le_of_ble_eq_true rfl) (by decide) (io_X9_3 D hb k hk) ?_
    refine e_if_eqB 17 dX8_isOf_10 (by decide) (fun hcq10 => ?_) (fun hcq10 => ?_)
    · refine e_iconst (nI (0)) dX8_isOf_17 (by decide) ?_
      first | exact e_top _ (b2_t (P := k ∈ upK 2) (by rw [hcq2]; decide)).symm (e_zretB dX8_isOf_18 rfl (hp _ rfl)) | exact e_top _ (b2_t (P := k ∈ upK 2) (List.mem_cons_of_mem 2 hcq10)).symm (e_zretB dX8_isOf_18 rfl (hp _ rfl)) | exact e_top _ (b2_f (P := k ∈ upK 2) (fun q => (List.mem_cons.mp (show k ∈ 2 :: upK 0 from q)).elim hcq2 hcq10)).symm (e_zretB dX8_isOf_18 rfl (hp _ rfl))
    · refine e_iconst (nI (1)) dX8_isOf_13 (by decide) ?_
      refine e_goto 18 dX8_isOf_14 (by decide) ?_
      first | exact e_top _ (b2_t (P := k ∈ upK 2) (by rw [hcq2]; decide)).symm (e_zretB dX8_isOf_18 rfl (hp _ rfl)) | exact e_top _ (b2_t (P := k ∈ upK 2) (List.mem_cons_of_mem 2 hcq10)).symm (e_zretB dX8_isOf_18 rfl (hp _ rfl)) | exact e_top _ (b2_f (P := k ∈ upK 2) (fun q => (List.mem_cons.mp (show k ∈ 2 :: upK 0 from q)).elim hcq2 hcq10)).symm (e_zretB dX8_isOf_18 rfl (hp _ rfl))
set_option maxRecDepth 20000 in
theorem io_X3_3 (D : En) {h : AH} {b t : Nat} {N : Nat → Int32} (hb : h[b]? = some (.inr (3, tgF N t))) (k : Nat) (hk : k < 7) : Sp D 2 mX3_isOf [.ref b, .int (nI k)] h 0 0 (some (.int (b2 (k ∈ upK 3)))) (fun h' => h' = h) := by
  intro post hp
  show Ev D 2 mX3_isOf 0 [some (.ref (b)), some (.int (nI (k)))] [] h 0 0 post
  refine e_iload_n dX3_isOf_0 rfl ?_
  refine e_iconst (nI (3)) dX3_isOf_1 (by decide) ?_
  refine e_icmp_eqN 13 dX3_isOf_2 (by decide) (by omega) (by omega) (fun hcq2 => ?_) (fun hcq2 => ?_)
  · refine e_iconst (nI (1)) dX3_isOf_13 (by decide) ?_
    refine e_goto 18 dX3_isOf_14 (by decide) ?_
    first | exact e_top _ (b2_t (P := k ∈ upK 3) (by rw [hcq2]; decide)).symm (e_zretB dX3_isOf_18 rfl (hp _ rfl)) | exact e_top _ (b2_t (P := k ∈ upK 3) (List.mem_cons_of_mem 3 hcq10)).symm (e_zretB dX3_isOf_18 rfl (hp _ rfl)) | exact e_top _ (b2_f (P := k ∈ upK 3) (fun q => (List.mem_cons.mp (show k ∈ 3 :: upK 2 from q)).elim hcq2 hcq10)).symm (e_zretB dX3_isOf_18 rfl (hp _ rfl))
  · refine e_aload_n dX3_isOf_5 rfl ?_
    refine e_iload_n dX3_isOf_6 rfl ?_
    refine c_U1iR (N := mX8_isOf) dX3_isOf_7 lu_X3_9 mo_X8_isOf hb rfl (Nat.le_of_ble_eq_true rfl) (Nat.le_of_ble_eq_true rfl) (by decide) (io_X8_3 D hb k hk) ?_
    refine e_if_eqB 17 dX3_isOf_10 (by decide) (fun hcq10 => ?_) (fun hcq10 => ?_)
    · refine e_iconst (nI (0)) dX3_isOf_17 (by decide) ?_
      first | exact e_top _ (b2_t (P := k ∈ upK 3) (by rw [hcq2]; decide)).symm (e_zretB dX3_isOf_18 rfl (hp _ rfl)) | exact e_top _ (b2_t (P := k ∈ upK 3) (List.mem_cons_of_mem 3 hcq10)).symm (e_zretB dX3_isOf_18 rfl (hp _ rfl)) | exact e_top _ (b2_f (P := k ∈ upK 3) (fun q => (List.mem_cons.mp (show k ∈ 3 :: upK 2 from q)).elim hcq2 hcq10)).symm (e_zretB dX3_isOf_18 rfl (hp _ rfl))
    · refine e_iconst (nI (1)) dX3_isOf_13 (by decide) ?_
      refine e_goto 18 dX3_isOf_14 (by decide) ?_
      first | exact e_top _ (b2_t (P := k ∈ upK 3) (by rw [hcq2]; decide)).symm (e_zretB dX3_isOf_18 rfl (hp _ rfl)) | exact e_top _ (b2_t (P := k ∈ upK 3) (List.mem_cons_of_mem 3 hcq10)).symm (e_zretB dX3_isOf_18 rfl (hp _ rfl)) | exact e_top _ (b2_f (P := k ∈ upK 3) (fun q => (List.mem_cons.mp (show k ∈ 3 :: upK 2 from q)).elim hcq2 hcq10)).symm (e_zretB dX3_isOf_18 rfl (hp _ rfl))
set_option maxRecDepth 20000 in
theorem io_X9_1 (D : En) {h : AH} {b t : Nat} {N : Nat → Int32} (hb : h[b]? = some (.inr (1, tgF N t))) (k : Nat) (hk : k < 7) : Sp D 0 mX9_isOf [.ref b, .int (nI k)] h 0 0 (some (.int (b2 (k ∈ upK 0)))) (fun h' => h' = h) := by
  intro post hp
  show Ev D 0 mX9_isOf 0 [some (.ref (b)), some (.int (nI (k)))] [] h 0 0 post
  refine e_iload_n dX9_isOf_0 rfl ?_
  refine e_if_neN 8 dX9_isOf_1 (by decide) (by omega) (fun hcq1 => ?_) (fun hcq1 => ?_)
  · refine e_iconst (nI (0)) dX9_isOf_8 (by decide) ?_
    first | exact e_top _ (b2_t (P := k ∈ upK 0) (by rw [hcq1]; decide)).symm (e_zretB dX9_isOf_9 rfl (hp _ rfl)) | exact e_top _ (b2_f (P := k ∈ upK 0) (fun q => hcq1 (List.mem_singleton.mp q))).symm (e_zretB dX9_isOf_9 rfl (hp _ rfl))
  · refine e_iconst (nI (1)) dX9_isOf_4 (by decide) ?_
    refine e_goto 9 dX9_isOf_5 (by decide) ?_
    first | exact e_top _ (b2_t (P := k ∈ upK 0) (by rw [hcq1]; decide)).symm (e_zretB dX9_isOf_9 rfl (hp _ rfl)) | exact e_top _ (b2_f (P := k ∈ upK 0) (fun q => hcq1 (List.mem_singleton.mp q))).symm (e_zretB dX9_isOf_9 rfl (hp _ rfl))
set_option maxRecDepth 20000 in
theorem io_X1_1 (D : En) {h : AH} {b t : Nat} {N : Nat → Int32} (hb : h[b]? = some (.inr (1, tgF N t))) (k : Nat) (hk : k < 7) : Sp D 1 mX1_isOf [.ref b, .int (nI k)] h 0 0 (some (.int (b2 (k ∈ upK 4)))) (fun h' => h' = h) := by
  intro post hp
  show Ev D 1 mX1_isOf 0 [some (.ref (b)), some (.int (nI (k)))] [] h 0 0 post
  refine e_iload_n dX1_isOf_0 rfl ?_
  refine e_iconst (nI (4)) dX1_isOf_1 (by decide) ?_
  refine e_icmp_eqN 13 dX1_isOf_2 (by decide) (by omega) (by omega) (fun hcq2 => ?_) (fun hcq2 => ?_)
  · refine e_iconst (nI (1)) dX1_isOf_13 (by decide) ?_
    refine e_goto 18 dX1_isOf_14 (by decide) ?_
    first | exact e_top _ (b2_t (P := k ∈ upK 4) (by rw [hcq2]; decide)).symm (e_zretB dX1_isOf_18 rfl (hp _ rfl)) | exact e_top _ (b2_t (P := k ∈ upK 4) (List.mem_cons_of_mem 4 hcq10)).symm (e_zretB dX1_isOf_18 rfl (hp _ rfl)) | exact e_top _ (b2_f (P := k ∈ upK 4) (fun q => (List.mem_cons.mp (show k ∈ 4 :: upK 0 from q)).elim hcq2 hcq10)).symm (e_zretB dX1_isOf_18 rfl (hp _ rfl))
  · refine e_aload_n dX1_isOf_5 rfl ?_
    refine e_iload_n dX1_isOf_6 rfl ?_
    refine c_U1iR (N := mX9_isOf) dX1_isOf_7 lu_X1_9 mo_X9_isOf hb rfl (Nat.le_of_ble_eq_true rfl) (Nat.le_of_ble_eq_true rfl) (by decide) (io_X9_1 D hb k hk) ?_
    refine e_if_eqB 17 dX1_isOf_10 (by decide) (fun hcq10 => ?_) (fun hcq10 => ?_)
    · refine e_iconst (nI (0)) dX1_isOf_17 (by decide) ?_
      first | exact e_top _ (b2_t (P := k ∈ upK 4) (by rw [hcq2]; decide)).symm (e_zretB dX1_isOf_18 rfl (hp _ rfl)) | exact e_top _ (b2_t (P := k ∈ upK 4) (List.mem_cons_of_mem 4 hcq10)).symm (e_zretB dX1_isOf_18 rfl (hp _ rfl)) | exact e_top _ (b2_f (P := k ∈ upK 4) (fun q => (List.mem_cons.mp (show k ∈ 4 :: upK 0 from q)).elim hcq2 hcq10)).symm (e_zretB dX1_isOf_18 rfl (hp _ rfl))
    · refine e_iconst (nI (1)) dX1_isOf_13 (by decide) ?_
      refine e_goto 18 dX1_isOf_14 (by decide) ?_
      first | exact e_top _ (b2_t (P := k ∈ upK 4) (by rw [hcq2]; decide)).symm (e_zretB dX1_isOf_18 rfl (hp _ rfl)) | exact e_top _ (b2_t (P := k ∈ upK 4) (List.mem_cons_of_mem 4 hcq10)).symm (e_zretB dX1_isOf_18 rfl (hp _ rfl)) | exact e_top _ (b2_f (P := k ∈ upK 4) (fun q => (List.mem_cons.mp (show k ∈ 4 :: upK 0 from q)).elim hcq2 hcq10)).symm (e_zretB dX1_isOf_18 rfl (hp _ rfl))
set_option maxRecDepth 20000 in
theorem io_X9_10 (D : En) {h : AH} {b t : Nat} {N : Nat → Int32} (hb : h[b]? = some (.inr (10, tgF N t))) (k : Nat) (hk : k < 7) : Sp D 0 mX9_isOf [.ref b, .int (nI k)] h 0 0 (some (.int (b2 (k ∈ upK 0)))) (fun h' => h' = h) := by
  intro post hp
  show Ev D 0 mX9_isOf 0 [some (.ref (b)), some (.int (nI (k)))] [] h 0 0 post
  refine e_iload_n dX9_isOf_0 rfl ?_
  refine e_if_neN 8 dX9_isOf_1 (by decide) (by omega) (fun hcq1 => ?_) (fun hcq1 => ?_)
  · refine e_iconst (nI (0)) dX9_isOf_8 (by decide) ?_
    first | exact e_top _ (b2_t (P := k ∈ upK 0) (by rw [hcq1]; decide)).symm (e_zretB dX9_isOf_9 rfl (hp _ rfl)) | exact e_top _ (b2_f (P := k ∈ upK 0) (fun q => hcq1 (List.mem_singleton.mp q))).symm (e_zretB dX9_isOf_9 rfl (hp _ rfl))
  · refine e_iconst (nI (1)) dX9_isOf_4 (by decide) ?_
    refine e_goto 9 dX9_isOf_5 (by decide) ?_
    first | exact e_top _ (b2_t (P := k ∈ upK 0) (by rw [hcq1]; decide)).symm (e_zretB dX9_isOf_9 rfl (hp _ rfl)) | exact e_top _ (b2_f (P := k ∈ upK 0) (fun q => hcq1 (List.mem_singleton.mp q))).symm (e_zretB dX9_isOf_9 rfl (hp _ rfl))
set_option maxRecDepth 20000 in
theorem io_X7_10 (D : En) {h : AH} {b t : Nat} {N : Nat → Int32} (hb : h[b]? = some (.inr (10, tgF N t))) (k : Nat) (hk : k < 7) : Sp D 1 mX7_isOf [.ref b, .int (nI k)] h 0 0 (some (.int (b2 (k ∈ upK 1)))) (fun h' => h' = h) := by
  intro post hp
  show Ev D 1 mX7_isOf 0 [some (.ref (b)), some (.int (nI (k)))] [] h 0 0 post
  refine e_iload_n dX7_isOf_0 rfl ?_
  refine e_iconst (nI (1)) dX7_isOf_1 (by decide) ?_
  refine e_icmp_eqN 13 dX7_isOf_2 (by decide) (by omega) (by omega) (fun hcq2 => ?_) (fun hcq2 => ?_)
  · refine e_iconst (nI (1)) dX7_isOf_13 (by decide) ?_
    refine e_goto 18 dX7_isOf_14 (by decide) ?_
    first | exact e_top _ (b2_t (P := k ∈ upK 1) (by rw [hcq2]; decide)).symm (e_zretB dX7_isOf_18 rfl (hp _ rfl)) | exact e_top _ (b2_t (P := k ∈ upK 1) (List.mem_cons_of_mem 1 hcq10)).symm (e_zretB dX7_isOf_18 rfl (hp _ rfl)) | exact e_top _ (b2_f (P := k ∈ upK 1) (fun q => (List.mem_cons.mp (show k ∈ 1 :: upK 0 from q)).elim hcq2 hcq10)).symm (e_zretB dX7_isOf_18 rfl (hp _ rfl))
  · refine e_aload_n dX7_isOf_5 rfl ?_
    refine e_iload_n dX7_isOf_6 rfl ?_
    refine c_U1iR (N := mX9_isOf) dX7_isOf_7 lu_X7_9 mo_X9_isOf hb rfl (Nat.le_of_ble_eq_true rfl) (Nat.le_of_ble_eq_true rfl) (by decide) (io_X9_10 D hb k hk) ?_
    refine e_if_eqB 17 dX7_isOf_10 (by decide) (fun hcq10 => ?_) (fun hcq10 => ?_)
    · refine e_iconst (nI (0)) dX7_isOf_17 (by decide) ?_
      first | exact e_top _ (b2_t (P := k ∈ upK 1) (by rw [hcq2]; decide)).symm (e_zretB dX7_isOf_18 rfl (hp _ rfl)) | exact e_top _ (b2_t (P := k ∈ upK 1) (List.mem_cons_of_mem 1 hcq10)).symm (e_zretB dX7_isOf_18 rfl (hp _ rfl)) | exact e_top _ (b2_f (P := k ∈ upK 1) (fun q => (List.mem_cons.mp (show k ∈ 1 :: upK 0 from q)).elim hcq2 hcq10)).symm (e_zretB dX7_isOf_18 rfl (hp _ rfl))
    · refine e_iconst (nI (1)) dX7_isOf_13 (by decide) ?_
      refine e_goto 18 dX7_isOf_14 (by decide) ?_
      first | exact e_top _ (b2_t (P := k ∈ upK 1) (by rw [hcq2]; decide)).symm (e_zretB dX7_isOf_18 rfl (hp _ rfl)) | exact e_top _ (b2_t (P := k ∈ upK 1) (List.mem_cons_of_mem 1 hcq10)).symm (e_zretB dX7_isOf_18 rfl (hp _ rfl)) | exact e_top _ (b2_f (P := k ∈ upK 1) (fun q => (List.mem_cons.mp (show k ∈ 1 :: upK 0 from q)).elim hcq2 hcq10)).symm (e_zretB dX7_isOf_18 rfl (hp _ rfl))
set_option maxRecDepth 20000 in
theorem io_X10_10 (D : En) {h : AH} {b t : Nat} {N : Nat → Int32} (hb : h[b]? = some (.inr (10, tgF N t))) (k : Nat) (hk : k < 7) : Sp D 2 mX10_isOf [.ref b, .int (nI k)] h 0 0 (some (.int (b2 (k ∈ upK 5)))) (fun h' => h' = h) := by
  intro post hp
  show Ev D 2 mX10_isOf 0 [some (.ref (b)), some (.int (nI (k)))] [] h 0 0 post
  refine e_iload_n dX10_isOf_0 rfl ?_
  refine e_iconst (nI (5)) dX10_isOf_1 (by decide) ?_
  refine e_icmp_eqN 13 dX10_isOf_2 (by decide) (by omega) (by omega) (fun hcq2 => ?_) (fun hcq2 => ?_)
  · refine e_iconst (nI (1)) dX10_isOf_13 (by decide) ?_
    refine e_goto 18 dX10_isOf_14 (by decide) ?_
    first | exact e_top _ (b2_t (P := k ∈ upK 5) (by rw [hcq2]; decide)).symm (e_zretB dX10_isOf_18 rfl (hp _ rfl)) | exact e_top _ (b2_t (P := k ∈ upK 5) (List.mem_cons_of_mem 5 hcq10)).symm (e_zretB dX10_isOf_18 rfl (hp _ rfl)) | exact e_top _ (b2_f (P := k ∈ upK 5) (fun q => (List.mem_cons.mp (show k ∈ 5 :: upK 1 from q)).elim hcq2 hcq10)).symm (e_zretB dX10_isOf_18 rfl (hp _ rfl))
  · refine e_aload_n dX10_isOf_5 rfl ?_
    refine e_iload_n dX10_isOf_6 rfl ?_
    refine c_U1iR (N := mX7_isOf) dX10_isOf_7 lu_X10_9 mo_X7_isOf hb rfl (Nat.le_of_ble_eq_true rfl) (Nat.le_of_ble_eq_true rfl) (by decide) (io_X7_10 D hb k hk) ?_
    refine e_if_eqB 17 dX10_isOf_10 (by decide) (fun hcq10 => ?_) (fun hcq10 => ?_)
    · refine e_iconst (nI (0)) dX10_isOf_17 (by decide) ?_
      first | exact e_top _ (b2_t (P := k ∈ upK 5) (by rw [hcq2]; decide)).symm (e_zretB dX10_isOf_18 rfl (hp _ rfl)) | exact e_top _ (b2_t (P := k ∈ upK 5) (List.mem_cons_of_mem 5 hcq10)).symm (e_zretB dX10_isOf_18 rfl (hp _ rfl)) | exact e_top _ (b2_f (P := k ∈ upK 5) (fun q => (List.mem_cons.mp (show k ∈ 5 :: upK 1 from q)).elim hcq2 hcq10)).symm (e_zretB dX10_isOf_18 rfl (hp _ rfl))
    · refine e_iconst (nI (1)) dX10_isOf_13 (by decide) ?_
      refine e_goto 18 dX10_isOf_14 (by decide) ?_
      first | exact e_top _ (b2_t (P := k ∈ upK 5) (by rw [hcq2]; decide)).symm (e_zretB dX10_isOf_18 rfl (hp _ rfl)) | exact e_top _ (b2_t (P := k ∈ upK 5) (List.mem_cons_of_mem 5 hcq10)).symm (e_zretB dX10_isOf_18 rfl (hp _ rfl)) | exact e_top _ (b2_f (P := k ∈ upK 5) (fun q => (List.mem_cons.mp (show k ∈ 5 :: upK 1 from q)).elim hcq2 hcq10)).symm (e_zretB dX10_isOf_18 rfl (hp _ rfl))
set_option maxRecDepth 20000 in
theorem io_X9_0 (D : En) {h : AH} {b t : Nat} {N : Nat → Int32} (hb : h[b]? = some (.inr (0, tgF N t))) (k : Nat) (hk : k < 7) : Sp D 0 mX9_isOf [.ref b, .int (nI k)] h 0 0 (some (.int (b2 (k ∈ upK 0)))) (fun h' => h' = h) := by
  intro post hp
  show Ev D 0 mX9_isOf 0 [some (.ref (b)), some (.int (nI (k)))] [] h 0 0 post
  refine e_iload_n dX9_isOf_0 rfl ?_
  refine e_if_neN 8 dX9_isOf_1 (by decide) (by omega) (fun hcq1 => ?_) (fun hcq1 => ?_)
  · refine e_iconst (nI (0)) dX9_isOf_8 (by decide) ?_
    first | exact e_top _ (b2_t (P := k ∈ upK 0) (by rw [hcq1]; decide)).symm (e_zretB dX9_isOf_9 rfl (hp _ rfl)) | exact e_top _ (b2_f (P := k ∈ upK 0) (fun q => hcq1 (List.mem_singleton.mp q))).symm (e_zretB dX9_isOf_9 rfl (hp _ rfl))
  · refine e_iconst (nI (1)) dX9_isOf_4 (by decide) ?_
    refine e_goto 9 dX9_isOf_5 (by decide) ?_
    first | exact e_top _ (b2_t (P := k ∈ upK 0) (by rw [hcq1]; decide)).symm (e_zretB dX9_isOf_9 rfl (hp _ rfl)) | exact e_top _ (b2_f (P := k ∈ upK 0) (fun q => hcq1 (List.mem_singleton.mp q))).symm (e_zretB dX9_isOf_9 rfl (hp _ rfl))
set_option maxRecDepth 20000 in
theorem io_X1_0 (D : En) {h : AH} {b t : Nat} {N : Nat → Int32} (hb : h[b]? = some (.inr (0, tgF N t))) (k : Nat) (hk : k < 7) : Sp D 1 mX1_isOf [.ref b, .int (nI k)] h 0 0 (some (.int (b2 (k ∈ upK 4)))) (fun h' => h' = h) := by
  intro post hp
  show Ev D 1 mX1_isOf 0 [some (.ref (b)), some (.int (nI (k)))] [] h 0 0 post
  refine e_iload_n dX1_isOf_0 rfl ?_
  refine e_iconst (nI (4)) dX1_isOf_1 (by decide) ?_
  refine e_icmp_eqN 13 dX1_isOf_2 (by decide) (by omega) (by omega) (fun hcq2 => ?_) (fun hcq2 => ?_)
  · refine e_iconst (nI (1)) dX1_isOf_13 (by decide) ?_
    refine e_goto 18 dX1_isOf_14 (by decide) ?_
    first | exact e_top _ (b2_t (P := k ∈ upK 4) (by rw [hcq2]; decide)).symm (e_zretB dX1_isOf_18 rfl (hp _ rfl)) | exact e_top _ (b2_t (P := k ∈ upK 4) (List.mem_cons_of_mem 4 hcq10)).symm (e_zretB dX1_isOf_18 rfl (hp _ rfl)) | exact e_top _ (b2_f (P := k ∈ upK 4) (fun q => (List.mem_cons.mp (show k ∈ 4 :: upK 0 from q)).elim hcq2 hcq10)).symm (e_zretB dX1_isOf_18 rfl (hp _ rfl))
  · refine e_aload_n dX1_isOf_5 rfl ?_
    refine e_iload_n dX1_isOf_6 rfl ?_
    refine c_U1iR (N := mX9_isOf) dX1_isOf_7 lu_X1_9 mo_X9_isOf hb rfl (Nat.le_of_ble_eq_true rfl) (Nat.le_of_ble_eq_true rfl) (by decide) (io_X9_0 D hb k hk) ?_
    refine e_if_eqB 17 dX1_isOf_10 (by decide) (fun hcq10 => ?_) (fun hcq10 => ?_)
    · refine e_iconst (nI (0)) dX1_isOf_17 (by decide) ?_
      first | exact e_top _ (b2_t (P := k ∈ upK 4) (by rw [hcq2]; decide)).symm (e_zretB dX1_isOf_18 rfl (hp _ rfl)) | exact e_top _ (b2_t (P := k ∈ upK 4) (List.mem_cons_of_mem 4 hcq10)).symm (e_zretB dX1_isOf_18 rfl (hp _ rfl)) | exact e_top _ (b2_f (P := k ∈ upK 4) (fun q => (List.mem_cons.mp (show k ∈ 4 :: upK 0 from q)).elim hcq2 hcq10)).symm (e_zretB dX1_isOf_18 rfl (hp _ rfl))
    · refine e_iconst (nI (1)) dX1_isOf_13 (by decide) ?_
      refine e_goto 18 dX1_isOf_14 (by decide) ?_
      first | exact e_top _ (b2_t (P := k ∈ upK 4) (by rw [hcq2]; decide)).symm (e_zretB dX1_isOf_18 rfl (hp _ rfl)) | exact e_top _ (b2_t (P := k ∈ upK 4) (List.mem_cons_of_mem 4 hcq10)).symm (e_zretB dX1_isOf_18 rfl (hp _ rfl)) | exact e_top _ (b2_f (P := k ∈ upK 4) (fun q => (List.mem_cons.mp (show k ∈ 4 :: upK 0 from q)).elim hcq2 hcq10)).symm (e_zretB dX1_isOf_18 rfl (hp _ rfl))
set_option maxRecDepth 20000 in
theorem io_X0_0 (D : En) {h : AH} {b t : Nat} {N : Nat → Int32} (hb : h[b]? = some (.inr (0, tgF N t))) (k : Nat) (hk : k < 7) : Sp D 2 mX0_isOf [.ref b, .int (nI k)] h 0 0 (some (.int (b2 (k ∈ upK 6)))) (fun h' => h' = h) := by
  intro post hp
  show Ev D 2 mX0_isOf 0 [some (.ref (b)), some (.int (nI (k)))] [] h 0 0 post
  refine e_iload_n dX0_isOf_0 rfl ?_
  refine e_bipush (nI (6)) dX0_isOf_1 (by decide) ?_
  refine e_icmp_eqN 14 dX0_isOf_3 (by decide) (by omega) (by omega) (fun hcq3 => ?_) (fun hcq3 => ?_)
  · refine e_iconst (nI (1)) dX0_isOf_14 (by decide) ?_
    refine e_goto 19 dX0_isOf_15 (by decide) ?_
    first | exact e_top _ (b2_t (P := k ∈ upK 6) (by rw [hcq3]; decide)).symm (e_zretB dX0_isOf_19 rfl (hp _ rfl)) | exact e_top _ (b2_t (P := k ∈ upK 6) (List.mem_cons_of_mem 6 hcq11)).symm (e_zretB dX0_isOf_19 rfl (hp _ rfl)) | exact e_top _ (b2_f (P := k ∈ upK 6) (fun q => (List.mem_cons.mp (show k ∈ 6 :: upK 4 from q)).elim hcq3 hcq11)).symm (e_zretB dX0_isOf_19 rfl (hp _ rfl))
  · refine e_aload_n dX0_isOf_6 rfl ?_
    refine e_iload_n dX0_isOf_7 rfl ?_
    refine c_U1iR (N := mX1_isOf) dX0_isOf_8 lu_X0_9 mo_X1_isOf hb rfl (Nat.le_of_ble_eq_true rfl) (Nat.le_of_ble_eq_true rfl) (by decide) (io_X1_0 D hb k hk) ?_
    refine e_if_eqB 18 dX0_isOf_11 (by decide) (fun hcq11 => ?_) (fun hcq11 => ?_)
    · refine e_iconst (nI (0)) dX0_isOf_18 (by decide) ?_
      first | exact e_top _ (b2_t (P := k ∈ upK 6) (by rw [hcq3]; decide)).symm (e_zretB dX0_isOf_19 rfl (hp _ rfl)) | exact e_top _ (b2_t (P := k ∈ upK 6) (List.mem_cons_of_mem 6 hcq11)).symm (e_zretB dX0_isOf_19 rfl (hp _ rfl)) | exact e_top _ (b2_f (P := k ∈ upK 6) (fun q => (List.mem_cons.mp (show k ∈ 6 :: upK 4 from q)).elim hcq3 hcq11)).symm (e_zretB dX0_isOf_19 rfl (hp _ rfl))
    · refine e_iconst (nI (1)) dX0_isOf_14 (by decide) ?_
      refine e_goto 19 dX0_isOf_15 (by decide) ?_
      first | exact e_top _ (b2_t (P := k ∈ upK 6) (by rw [hcq3]; decide)).symm (e_zretB dX0_isOf_19 rfl (hp _ rfl)) | exact e_top _ (b2_t (P := k ∈ upK 6) (List.mem_cons_of_mem 6 hcq11)).symm (e_zretB dX0_isOf_19 rfl (hp _ rfl)) | exact e_top _ (b2_f (P := k ∈ upK 6) (fun q => (List.mem_cons.mp (show k ∈ 6 :: upK 4 from q)).elim hcq3 hcq11)).symm (e_zretB dX0_isOf_19 rfl (hp _ rfl))
theorem vi_X11_171 {D : En} {d : Nat} {M : Mt} {pc : Nat} {ls : List (Option Value)} {st : List Value} {h : AH} {nc ns : Nat} {post : Option Value → AH → Prop} {b t k : Nat} {N : Nat → Int32} (hM : M.1.cls = RX11) (hd : decode M.2.1 pc = .ok (.invokevirtual 171, 3)) (hb : ThingAt h b t N) (hk : kdN N t < 7) (hk7 : k < 7) (hr : (st.map fun v => v.category).sum ≤ 8) (hdd : 2 < d) (kk : Ev D d M (pc + 3) ls (.int (b2 (k ∈ upK (kdN N t))) :: st) h nc ns post) : Ev D d M pc ls (.int (nI k) :: .ref b :: st) h nc ns post := by
  obtain ⟨-, hb⟩ := hb
  rcases (show kdN N t = 0 ∨ kdN N t = 1 ∨ kdN N t = 2 ∨ kdN N t = 3 ∨ kdN N t = 4 ∨ kdN N t = 5 ∨ kdN N t = 6 by omega) with e9 | e9 | e9 | e9 | e9 | e9 | e9
  · rw [e9] at hb kk
    exact c_V1iR (N := mX9_isOf) hd (by rw [hM]; exact lv_X11_171) mo_X9_isOf (Or.inl ⟨9, tgF N t, _, hb, rfl, rfl⟩) hr (Nat.le_of_ble_eq_true rfl) (Nat.lt_of_le_of_lt (by decide) hdd) (io_X9_9 D hb k hk7) kk
  · rw [e9] at hb kk
    exact c_O1iR (x := yX9_isOf) (owner := "EmptyLand$Thing") (C := RX7) (N := mX7_isOf) hd (by rw [hM]; exact lo_X11_171_7) mo_X7_isOf (Or.inl ⟨7, tgF N t, _, hb, rfl, rfl⟩) hr (Nat.le_of_ble_eq_true rfl) (Nat.lt_of_le_of_lt (by decide) hdd) (io_X7_7 D hb k hk7) kk
  · rw [e9] at hb kk
    exact c_O1iR (x := yX9_isOf) (owner := "EmptyLand$Thing") (C := RX8) (N := mX8_isOf) hd (by rw [hM]; exact lo_X11_171_8) mo_X8_isOf (Or.inl ⟨8, tgF N t, _, hb, rfl, rfl⟩) hr (Nat.le_of_ble_eq_true rfl) (Nat.lt_of_le_of_lt (by decide) hdd) (io_X8_8 D hb k hk7) kk
  · rw [e9] at hb kk
    exact c_O1iR (x := yX9_isOf) (owner := "EmptyLand$Thing") (C := RX3) (N := mX3_isOf) hd (by rw [hM]; exact lo_X11_171_3) mo_X3_isOf (Or.inl ⟨3, tgF N t, _, hb, rfl, rfl⟩) hr (Nat.le_of_ble_eq_true rfl) (Nat.lt_of_le_of_lt (by decide) hdd) (io_X3_3 D hb k hk7) kk
  · rw [e9] at hb kk
    exact c_O1iR (x := yX9_isOf) (owner := "EmptyLand$Thing") (C := RX1) (N := mX1_isOf) hd (by rw [hM]; exact lo_X11_171_1) mo_X1_isOf (Or.inl ⟨1, tgF N t, _, hb, rfl, rfl⟩) hr (Nat.le_of_ble_eq_true rfl) (Nat.lt_of_le_of_lt (by decide) hdd) (io_X1_1 D hb k hk7) kk
  · rw [e9] at hb kk
    exact c_O1iR (x := yX9_isOf) (owner := "EmptyLand$Thing") (C := RX10) (N := mX10_isOf) hd (by rw [hM]; exact lo_X11_171_10) mo_X10_isOf (Or.inl ⟨10, tgF N t, _, hb, rfl, rfl⟩) hr (Nat.le_of_ble_eq_true rfl) (Nat.lt_of_le_of_lt (by decide) hdd) (io_X10_10 D hb k hk7) kk
  · rw [e9] at hb kk
    exact c_O1iR (x := yX9_isOf) (owner := "EmptyLand$Thing") (C := RX0) (N := mX0_isOf) hd (by rw [hM]; exact lo_X11_171_0) mo_X0_isOf (Or.inl ⟨0, tgF N t, _, hb, rfl, rfl⟩) hr (Nat.le_of_ble_eq_true rfl) (Nat.lt_of_le_of_lt (by decide) hdd) (io_X0_0 D hb k hk7) kk
theorem vc_X11_168 {D : En} {d : Nat} {M : Mt} {pc : Nat} {ls : List (Option Value)} {st : List Value} {h : AH} {nc ns : Nat} {post : Option Value → AH → Prop} {b t : Nat} {N : Nat → Int32} (hM : M.1.cls = RX11) (hd : decode M.2.1 pc = .ok (.invokevirtual 168, 3)) (hb : ThingAt h b t N) (hk : kdN N t < 7) (hr : (st.map fun v => v.category).sum ≤ 8) (hdd : 3 < d) (kk : Ev D d M (pc + 3) ls (.int (G0 (kdN N t)) :: st) h nc ns post) : Ev D d M pc ls (.ref b :: st) h nc ns post := by
  obtain ⟨-, hb⟩ := hb
  rcases (show kdN N t = 0 ∨ kdN N t = 1 ∨ kdN N t = 2 ∨ kdN N t = 3 ∨ kdN N t = 4 ∨ kdN N t = 5 ∨ kdN N t = 6 by omega) with e9 | e9 | e9 | e9 | e9 | e9 | e9
  · rw [e9] at hb kk
    exact c_V0iR (N := mX9_giving) hd (by rw [hM]; exact lv_X11_168) mo_X9_giving (Or.inl ⟨9, tgF N t, _, hb, rfl, rfl⟩) hr (Nat.le_of_ble_eq_true rfl) (Nat.lt_of_le_of_lt (by decide) hdd) (g_X9_9 D hb) kk
  · rw [e9] at hb kk
    exact c_O0iR (x := yX9_giving) (owner := "EmptyLand$Thing") (C := RX7) (N := mX7_giving) hd (by rw [hM]; exact lo_X11_168_7) mo_X7_giving (Or.inl ⟨7, tgF N t, _, hb, rfl, rfl⟩) hr (Nat.le_of_ble_eq_true rfl) (Nat.lt_of_le_of_lt (by decide) hdd) (g_X7_7 D hb) kk
  · rw [e9] at hb kk
    exact c_O0iR (x := yX9_giving) (owner := "EmptyLand$Thing") (C := RX8) (N := mX8_giving) hd (by rw [hM]; exact lo_X11_168_8) mo_X8_giving (Or.inl ⟨8, tgF N t, _, hb, rfl, rfl⟩) hr (Nat.le_of_ble_eq_true rfl) (Nat.lt_of_le_of_lt (by decide) hdd) (g_X8_8 D hb) kk
  · rw [e9] at hb kk
    exact c_O0iR (x := yX9_giving) (owner := "EmptyLand$Thing") (C := RX3) (N := mX3_giving) hd (by rw [hM]; exact lo_X11_168_3) mo_X3_giving (Or.inl ⟨3, tgF N t, _, hb, rfl, rfl⟩) hr (Nat.le_of_ble_eq_true rfl) (Nat.lt_of_le_of_lt (by decide) hdd) (g_X3_3 D hb) kk
  · rw [e9] at hb kk
    exact c_O0iR (x := yX9_giving) (owner := "EmptyLand$Thing") (C := RX1) (N := mX1_giving) hd (by rw [hM]; exact lo_X11_168_1) mo_X1_giving (Or.inl ⟨1, tgF N t, _, hb, rfl, rfl⟩) hr (Nat.le_of_ble_eq_true rfl) (Nat.lt_of_le_of_lt (by decide) hdd) (g_X1_1 D hb) kk
  · rw [e9] at hb kk
    exact c_O0iR (x := yX9_giving) (owner := "EmptyLand$Thing") (C := RX10) (N := mX10_giving) hd (by rw [hM]; exact lo_X11_168_10) mo_X10_giving (Or.inl ⟨10, tgF N t, _, hb, rfl, rfl⟩) hr (Nat.le_of_ble_eq_true rfl) (Nat.lt_of_le_of_lt (by decide) hdd) (g_X10_10 D hb) kk
  · rw [e9] at hb kk
    exact c_O0iR (x := yX9_giving) (owner := "EmptyLand$Thing") (C := RX0) (N := mX0_giving) hd (by rw [hM]; exact lo_X11_168_0) mo_X0_giving (Or.inl ⟨0, tgF N t, _, hb, rfl, rfl⟩) hr (Nat.le_of_ble_eq_true rfl) (Nat.lt_of_le_of_lt (by decide) hdd) (g_X0_0 D hb) kk
theorem vc_X11_358 {D : En} {d : Nat} {M : Mt} {pc : Nat} {ls : List (Option Value)} {st : List Value} {h : AH} {nc ns : Nat} {post : Option Value → AH → Prop} {b t : Nat} {N : Nat → Int32} (hM : M.1.cls = RX11) (hd : decode M.2.1 pc = .ok (.invokevirtual 358, 3)) (hb : ThingAt h b t N) (hk : kdN N t < 7) (hr : (st.map fun v => v.category).sum ≤ 8) (hdd : 3 < d) (kk : Ev D d M (pc + 3) ls (.int (if nI (kdN N t) = nI 5 then nI 2 * N (112 + 7 * t + 4) else N (112 + 7 * t + 4)) :: st) h nc ns post) : Ev D d M pc ls (.ref b :: st) h nc ns post := by
  obtain ⟨-, hb⟩ := hb
  rcases (show kdN N t = 0 ∨ kdN N t = 1 ∨ kdN N t = 2 ∨ kdN N t = 3 ∨ kdN N t = 4 ∨ kdN N t = 5 ∨ kdN N t = 6 by omega) with e9 | e9 | e9 | e9 | e9 | e9 | e9
  · rw [e9] at hb kk
    exact c_V0iR (N := mX9_spanWide) hd (by rw [hM]; exact lv_X11_358) mo_X9_spanWide (Or.inl ⟨9, tgF N t, _, hb, rfl, rfl⟩) hr (Nat.le_of_ble_eq_true rfl) (Nat.lt_of_le_of_lt (by decide) hdd) (sp_X9_9 D hb) kk
  · rw [e9] at hb kk
    exact c_O0iR (x := yX9_spanWide) (owner := "EmptyLand$Thing") (C := RX7) (N := mX9_spanWide) hd (by rw [hM]; exact lo_X11_358_7) mo_X9_spanWide (Or.inl ⟨7, tgF N t, _, hb, rfl, rfl⟩) hr (Nat.le_of_ble_eq_true rfl) (Nat.lt_of_le_of_lt (by decide) hdd) (sp_X9_7 D hb) kk
  · rw [e9] at hb kk
    exact c_O0iR (x := yX9_spanWide) (owner := "EmptyLand$Thing") (C := RX8) (N := mX9_spanWide) hd (by rw [hM]; exact lo_X11_358_8) mo_X9_spanWide (Or.inl ⟨8, tgF N t, _, hb, rfl, rfl⟩) hr (Nat.le_of_ble_eq_true rfl) (Nat.lt_of_le_of_lt (by decide) hdd) (sp_X9_8 D hb) kk
  · rw [e9] at hb kk
    exact c_O0iR (x := yX9_spanWide) (owner := "EmptyLand$Thing") (C := RX3) (N := mX9_spanWide) hd (by rw [hM]; exact lo_X11_358_3) mo_X9_spanWide (Or.inl ⟨3, tgF N t, _, hb, rfl, rfl⟩) hr (Nat.le_of_ble_eq_true rfl) (Nat.lt_of_le_of_lt (by decide) hdd) (sp_X9_3 D hb) kk
  · rw [e9] at hb kk
    exact c_O0iR (x := yX9_spanWide) (owner := "EmptyLand$Thing") (C := RX1) (N := mX9_spanWide) hd (by rw [hM]; exact lo_X11_358_1) mo_X9_spanWide (Or.inl ⟨1, tgF N t, _, hb, rfl, rfl⟩) hr (Nat.le_of_ble_eq_true rfl) (Nat.lt_of_le_of_lt (by decide) hdd) (sp_X9_1 D hb) kk
  · rw [e9] at hb kk
    exact c_O0iR (x := yX9_spanWide) (owner := "EmptyLand$Thing") (C := RX10) (N := mX10_spanWide) hd (by rw [hM]; exact lo_X11_358_10) mo_X10_spanWide (Or.inl ⟨10, tgF N t, _, hb, rfl, rfl⟩) hr (Nat.le_of_ble_eq_true rfl) (Nat.lt_of_le_of_lt (by decide) hdd) (sp_X10_10 D hb) kk
  · rw [e9] at hb kk
    exact c_O0iR (x := yX9_spanWide) (owner := "EmptyLand$Thing") (C := RX0) (N := mX9_spanWide) hd (by rw [hM]; exact lo_X11_358_0) mo_X9_spanWide (Or.inl ⟨0, tgF N t, _, hb, rfl, rfl⟩) hr (Nat.le_of_ble_eq_true rfl) (Nat.lt_of_le_of_lt (by decide) hdd) (sp_X9_0 D hb) kk
theorem vc_X11_138 {D : En} {d : Nat} {M : Mt} {pc : Nat} {ls : List (Option Value)} {st : List Value} {h : AH} {nc ns : Nat} {post : Option Value → AH → Prop} {b t : Nat} {N : Nat → Int32} (hM : M.1.cls = RX11) (hd : decode M.2.1 pc = .ok (.invokevirtual 138, 3)) (hb : ThingAt h b t N) (hk : kdN N t < 7) (hr : (st.map fun v => v.category).sum ≤ 8) (hdd : 3 < d) (kk : Ev D d M (pc + 3) ls (.int (nI (kdN N t)) :: st) h nc ns post) : Ev D d M pc ls (.ref b :: st) h nc ns post := by
  obtain ⟨-, hb⟩ := hb
  rcases (show kdN N t = 0 ∨ kdN N t = 1 ∨ kdN N t = 2 ∨ kdN N t = 3 ∨ kdN N t = 4 ∨ kdN N t = 5 ∨ kdN N t = 6 by omega) with e9 | e9 | e9 | e9 | e9 | e9 | e9
  · rw [e9] at hb kk
    exact c_V0iR (N := mX9_kindNumber) hd (by rw [hM]; exact lv_X11_138) mo_X9_kindNumber (Or.inl ⟨9, tgF N t, _, hb, rfl, rfl⟩) hr (Nat.le_of_ble_eq_true rfl) (Nat.lt_of_le_of_lt (by decide) hdd) (kn_X9_9 D hb) kk
  · rw [e9] at hb kk
    exact c_O0iR (x := yX9_kindNumber) (owner := "EmptyLand$Thing") (C := RX7) (N := mX7_kindNumber) hd (by rw [hM]; exact lo_X11_138_7) mo_X7_kindNumber (Or.inl ⟨7, tgF N t, _, hb, rfl, rfl⟩) hr (Nat.le_of_ble_eq_true rfl) (Nat.lt_of_le_of_lt (by decide) hdd) (kn_X7_7 D hb) kk
  · rw [e9] at hb kk
    exact c_O0iR (x := yX9_kindNumber) (owner := "EmptyLand$Thing") (C := RX8) (N := mX8_kindNumber) hd (by rw [hM]; exact lo_X11_138_8) mo_X8_kindNumber (Or.inl ⟨8, tgF N t, _, hb, rfl, rfl⟩) hr (Nat.le_of_ble_eq_true rfl) (Nat.lt_of_le_of_lt (by decide) hdd) (kn_X8_8 D hb) kk
  · rw [e9] at hb kk
    exact c_O0iR (x := yX9_kindNumber) (owner := "EmptyLand$Thing") (C := RX3) (N := mX3_kindNumber) hd (by rw [hM]; exact lo_X11_138_3) mo_X3_kindNumber (Or.inl ⟨3, tgF N t, _, hb, rfl, rfl⟩) hr (Nat.le_of_ble_eq_true rfl) (Nat.lt_of_le_of_lt (by decide) hdd) (kn_X3_3 D hb) kk
  · rw [e9] at hb kk
    exact c_O0iR (x := yX9_kindNumber) (owner := "EmptyLand$Thing") (C := RX1) (N := mX1_kindNumber) hd (by rw [hM]; exact lo_X11_138_1) mo_X1_kindNumber (Or.inl ⟨1, tgF N t, _, hb, rfl, rfl⟩) hr (Nat.le_of_ble_eq_true rfl) (Nat.lt_of_le_of_lt (by decide) hdd) (kn_X1_1 D hb) kk
  · rw [e9] at hb kk
    exact c_O0iR (x := yX9_kindNumber) (owner := "EmptyLand$Thing") (C := RX10) (N := mX10_kindNumber) hd (by rw [hM]; exact lo_X11_138_10) mo_X10_kindNumber (Or.inl ⟨10, tgF N t, _, hb, rfl, rfl⟩) hr (Nat.le_of_ble_eq_true rfl) (Nat.lt_of_le_of_lt (by decide) hdd) (kn_X10_10 D hb) kk
  · rw [e9] at hb kk
    exact c_O0iR (x := yX9_kindNumber) (owner := "EmptyLand$Thing") (C := RX0) (N := mX0_kindNumber) hd (by rw [hM]; exact lo_X11_138_0) mo_X0_kindNumber (Or.inl ⟨0, tgF N t, _, hb, rfl, rfl⟩) hr (Nat.le_of_ble_eq_true rfl) (Nat.lt_of_le_of_lt (by decide) hdd) (kn_X0_0 D hb) kk
theorem tl_X11_143 : ∀ ci, (ci = 0 ∨ ci = 1 ∨ ci = 3 ∨ ci = 7 ∨ ci = 8 ∨ ci = 9 ∨ ci = 10) → FL RX11 143 ci 1 := by
  intro ci h
  rcases h with rfl | rfl | rfl | rfl | rfl | rfl | rfl
  · exact fl_X11_143_0
  · exact fl_X11_143_1
  · exact fl_X11_143_3
  · exact fl_X11_143_7
  · exact fl_X11_143_8
  · exact fl_X11_143_9
  · exact fl_X11_143_10
theorem tl_X11_146 : ∀ ci, (ci = 0 ∨ ci = 1 ∨ ci = 3 ∨ ci = 7 ∨ ci = 8 ∨ ci = 9 ∨ ci = 10) → FL RX11 146 ci 2 := by
  intro ci h
  rcases h with rfl | rfl | rfl | rfl | rfl | rfl | rfl
  · exact fl_X11_146_0
  · exact fl_X11_146_1
  · exact fl_X11_146_3
  · exact fl_X11_146_7
  · exact fl_X11_146_8
  · exact fl_X11_146_9
  · exact fl_X11_146_10
theorem tl_X11_149 : ∀ ci, (ci = 0 ∨ ci = 1 ∨ ci = 3 ∨ ci = 7 ∨ ci = 8 ∨ ci = 9 ∨ ci = 10) → FL RX11 149 ci 3 := by
  intro ci h
  rcases h with rfl | rfl | rfl | rfl | rfl | rfl | rfl
  · exact fl_X11_149_0
  · exact fl_X11_149_1
  · exact fl_X11_149_3
  · exact fl_X11_149_7
  · exact fl_X11_149_8
  · exact fl_X11_149_9
  · exact fl_X11_149_10
theorem tl_X11_152 : ∀ ci, (ci = 0 ∨ ci = 1 ∨ ci = 3 ∨ ci = 7 ∨ ci = 8 ∨ ci = 9 ∨ ci = 10) → FL RX11 152 ci 4 := by
  intro ci h
  rcases h with rfl | rfl | rfl | rfl | rfl | rfl | rfl
  · exact fl_X11_152_0
  · exact fl_X11_152_1
  · exact fl_X11_152_3
  · exact fl_X11_152_7
  · exact fl_X11_152_8
  · exact fl_X11_152_9
  · exact fl_X11_152_10
