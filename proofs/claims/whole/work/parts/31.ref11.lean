theorem tx_len (i : Nat) : (tx i).length ≤ 4 := by unfold tx; split <;> decide
theorem tx_shr (i : Nat) (hi : i < 3) : nI (tx i).length >>> ((0 : Int32) &&& 31) = nI (tx i).length := by
  rcases (show i = 0 ∨ i = 1 ∨ i = 2 by omega) with rfl | rfl | rfl <;> decide
theorem tx_chr : ∀ i, i < 3 → ∀ k, k < (tx i).length → (((tx i).getD k 0 &&& nI 255).toUInt32 % 65536).toInt32 = (tx i).getD k 0 := by decide
theorem tx_nar : ∀ i, i < 3 → ∀ k, k < (tx i).length → narrow .char (.int ((tx i).getD k 0)) = .int ((tx i).getD k 0) := by decide
set_option maxRecDepth 20000 in
theorem s_coder (D : En) {h : AH} (hX : XH h) (i : Nat) (hi : i < 3) : Sp D 0 mJ0_coder_7d493 [.ref (4 + i)] h 0 0 (some (.int (0))) (fun h' => h' = h) := by
  intro post hp
  show Ev D 0 mJ0_coder_7d493 0 [some (.ref (4 + i))] [] h 0 0 post
  refine e_gets (v := .int 1) dJ0_coder_7d493_0 w_756 (z_compact D) ?_
  refine e_if_eq 13 dJ0_coder_7d493_3 (by decide) (fun hcq3 => absurd hcq3 (by decide)) (fun hcq3 => ?_)
  refine e_aload_n dJ0_coder_7d493_6 rfl ?_
  refine e_getTc (by unfold nX; omega) dJ0_coder_7d493_7 w_1747 (hX i hi).1 ?_
  refine e_goto 14 dJ0_coder_7d493_10 (by decide) ?_
  exact e_zret dJ0_coder_7d493_14 rfl (by decide) (hp _ rfl)
set_option maxRecDepth 20000 in
theorem s_latin1 (D : En) {h : AH} (hX : XH h) (i : Nat) (hi : i < 3) : Sp D 0 mJ0_isLatin1_aae02 [.ref (4 + i)] h 0 0 (some (.int (nI (1)))) (fun h' => h' = h) := by
  intro post hp
  show Ev D 0 mJ0_isLatin1_aae02 0 [some (.ref (4 + i))] [] h 0 0 post
  refine e_gets (v := .int 1) dJ0_isLatin1_aae02_0 w_756 (z_compact D) ?_
  refine e_if_eq 17 dJ0_isLatin1_aae02_3 (by decide) (fun hcq3 => absurd hcq3 (by decide)) (fun hcq3 => ?_)
  refine e_aload_n dJ0_isLatin1_aae02_6 rfl ?_
  refine e_getTc (by unfold nX; omega) dJ0_isLatin1_aae02_7 w_1747 (hX i hi).1 ?_
  refine e_if_ne 17 dJ0_isLatin1_aae02_10 (by decide) (fun hcq10 => absurd rfl hcq10) (fun hcq10 => ?_)
  refine e_iconst (nI (1)) dJ0_isLatin1_aae02_13 (by decide) ?_
  refine e_goto 18 dJ0_isLatin1_aae02_14 (by decide) ?_
  exact e_zret dJ0_isLatin1_aae02_18 rfl (by decide) (hp _ rfl)
set_option maxRecDepth 20000 in
theorem s_len (D : En) {h : AH} (hX : XH h) (i : Nat) (hi : i < 3) : Sp D 1 mJ0_length_8abf5 [.ref (4 + i)] h 0 0 (some (.int (nI ((tx i).length)))) (fun h' => h' = h) := by
  intro post hp
  show Ev D 1 mJ0_length_8abf5 0 [some (.ref (4 + i))] [] h 0 0 post
  refine e_aload_n dJ0_length_8abf5_0 rfl ?_
  refine e_getT (by unfold nX; omega) dJ0_length_8abf5_1 w_1748 (hX i hi).1 ?_
  refine e_alenX dJ0_length_8abf5_4 (hX i hi).2 (by unfold nX; omega) ?_
  refine e_top (nI (tx i).length) rfl ?_
  refine e_aload_n dJ0_length_8abf5_5 rfl ?_
  refine c_V0iR (N := mJ0_coder_7d493) dJ0_length_8abf5_6 lv_J0_335 mo_J0_coder_7d493 (Or.inr ⟨rfl, by unfold nX; omega, _, (hX i hi).1⟩) (Nat.le_of_ble_eq_true rfl) (Nat.le_of_ble_eq_true rfl) (by decide) (s_coder D hX i hi) ?_
  refine e_ishr dJ0_length_8abf5_9 ?_
  refine e_top (nI (tx i).length) (tx_shr i hi) ?_
  exact e_iret dJ0_length_8abf5_10 rfl (hp _ rfl)
set_option maxRecDepth 20000 in
theorem s_pck0 (D : En) {h : AH} (k n : Nat) (hk : k < n) (hn : n < 1000) : Sp D 0 mJ3_checkIndex_8e157 [.int (nI (k)), .int (nI (n)), .null] h 0 0 (some (.int (nI (k)))) (fun h' => h' = h) := by
  intro post hp
  show Ev D 0 mJ3_checkIndex_8e157 0 [some (.int (nI (k))), some (.int (nI (n))), some (.null)] [] h 0 0 post
  refine e_iload_n dJ3_checkIndex_8e157_0 rfl ?_
  refine e_if_ltN (tgt := 9) dJ3_checkIndex_8e157_1 (by decide) (by omega) ?_
  refine e_iload_n dJ3_checkIndex_8e157_4 rfl ?_
  refine e_iload_n dJ3_checkIndex_8e157_5 rfl ?_
  refine e_icmp_ltN 16 dJ3_checkIndex_8e157_6 (by decide) (by omega) (by omega) (fun hcq6 => ?_) (fun hcq6 => absurd hcq6 (by omega))
  refine e_iload_n dJ3_checkIndex_8e157_16 rfl ?_
  exact e_iret dJ3_checkIndex_8e157_17 rfl (hp _ rfl)
set_option maxRecDepth 20000 in
theorem s_pck1 (D : En) {h : AH} (k n : Nat) (hk : k < n) (hn : n < 1000) : Sp D 0 mJ3_checkIndex_8e157 [.int (nI (k)), .int (nI (n)), .ref (10)] h 0 0 (some (.int (nI (k)))) (fun h' => h' = h) := by
  intro post hp
  show Ev D 0 mJ3_checkIndex_8e157 0 [some (.int (nI (k))), some (.int (nI (n))), some (.ref (10))] [] h 0 0 post
  refine e_iload_n dJ3_checkIndex_8e157_0 rfl ?_
  refine e_if_ltN (tgt := 9) dJ3_checkIndex_8e157_1 (by decide) (by omega) ?_
  refine e_iload_n dJ3_checkIndex_8e157_4 rfl ?_
  refine e_iload_n dJ3_checkIndex_8e157_5 rfl ?_
  refine e_icmp_ltN 16 dJ3_checkIndex_8e157_6 (by decide) (by omega) (by omega) (fun hcq6 => ?_) (fun hcq6 => absurd hcq6 (by omega))
  refine e_iload_n dJ3_checkIndex_8e157_16 rfl ?_
  exact e_iret dJ3_checkIndex_8e157_17 rfl (hp _ rfl)
theorem s_ckI (D : En) {h : AH} (k n : Nat) (hk : k < n) (hn : n < 1000) : Sp D 1 mJ0_checkIndex_df160 [.int (nI k), .int (nI n)] h 0 0 none (fun h' => h' = h) := by
  intro post hp
  show Ev D 1 mJ0_checkIndex_df160 0 [some (.int (nI k)), some (.int (nI n))] [] h 0 0 post
  refine e_iload_n dJ0_checkIndex_df160_0 rfl ?_
  refine e_iload_n dJ0_checkIndex_df160_1 rfl ?_
  refine e_getsFmt dJ0_checkIndex_df160_2 w_797 (fun vfq hvfq => ?_)
  rcases hvfq with rfl | rfl
  · refine c_S3iR (N := mJ3_checkIndex_8e157) dJ0_checkIndex_df160_5 ls_J0_1059 mo_J3_checkIndex_8e157 (Nat.le_of_ble_eq_true rfl) (Nat.le_of_ble_eq_true rfl) (by decide) (s_pck0 D k n hk hn) ?_
    refine e_pop dJ0_checkIndex_df160_8 rfl ?_
    exact e_vret dJ0_checkIndex_df160_9 rfl (hp _ rfl)
  · refine c_S3iR (N := mJ3_checkIndex_8e157) dJ0_checkIndex_df160_5 ls_J0_1059 mo_J3_checkIndex_8e157 (Nat.le_of_ble_eq_true rfl) (Nat.le_of_ble_eq_true rfl) (by decide) (s_pck1 D k n hk hn) ?_
    refine e_pop dJ0_checkIndex_df160_8 rfl ?_
    exact e_vret dJ0_checkIndex_df160_9 rfl (hp _ rfl)
set_option maxRecDepth 20000 in
theorem s_lchr (D : En) {h : AH} (hX : XH h) (i : Nat) (hi : i < 3) (k : Nat) (hk : k < (tx i).length) : Sp D 2 mJ1_charAt_3b067 [.ref (7 + i), .int (nI (k))] h 0 0 (some (.int ((tx i).getD k 0))) (fun h' => h' = h) := by
  intro post hp
  show Ev D 2 mJ1_charAt_3b067 0 [some (.ref (7 + i)), some (.int (nI (k)))] [] h 0 0 post
  refine e_iload_n dJ1_charAt_3b067_0 rfl ?_
  refine e_aload_n dJ1_charAt_3b067_1 rfl ?_
  refine e_alenX dJ1_charAt_3b067_2 (hX i hi).2 (by unfold nX; omega) ?_
  refine e_top (nI (tx i).length) rfl ?_
  refine c_S2vR (N := mJ0_checkIndex_df160) dJ1_charAt_3b067_3 ls_J1_9 mo_J0_checkIndex_df160  (Nat.le_of_ble_eq_true rfl) (Nat.le_of_ble_eq_true rfl) (by decide) (s_ckI D k (tx i).length hk (by have := tx_len i; omega)) ?_
  refine e_aload_n dJ1_charAt_3b067_6 rfl ?_
  refine e_iload_n dJ1_charAt_3b067_7 rfl ?_
  refine e_baloadX dJ1_charAt_3b067_8 (hX i hi).2 (by unfold nX; omega) (vp_in_nI hk (by have := tx_len i; omega)) ?_
  refine e_top ((tx i).getD k 0) (by show (tx i).getD _ 0 = _; rw [nI_clamp (by have := tx_len i; omega)]) ?_
  refine e_sipush (nI (255)) dJ1_charAt_3b067_9 (by decide) ?_
  refine e_iand dJ1_charAt_3b067_12 ?_
  refine e_i2c dJ1_charAt_3b067_13 ?_
  refine e_top ((tx i).getD k 0) (tx_chr i hi k hk) ?_
  exact e_zret dJ1_charAt_3b067_14 rfl (tx_nar i hi k hk) (hp _ rfl)
set_option maxRecDepth 20000 in
theorem s_chr (D : En) {h : AH} (hX : XH h) (i : Nat) (hi : i < 3) (k : Nat) (hk : k < (tx i).length) : Sp D 3 mJ0_charAt_5068e [.ref (4 + i), .int (nI (k))] h 0 0 (some (.int ((tx i).getD k 0))) (fun h' => h' = h) := by
  intro post hp
  show Ev D 3 mJ0_charAt_5068e 0 [some (.ref (4 + i)), some (.int (nI (k)))] [] h 0 0 post
  refine e_aload_n dJ0_charAt_5068e_0 rfl ?_
  refine c_V0iR (N := mJ0_isLatin1_aae02) dJ0_charAt_5068e_1 lv_J0_492 mo_J0_isLatin1_aae02 (Or.inr ⟨rfl, by unfold nX; omega, _, (hX i hi).1⟩) (Nat.le_of_ble_eq_true rfl) (Nat.le_of_ble_eq_true rfl) (by decide) (s_latin1 D hX i hi) ?_
  refine e_if_eqN 16 dJ0_charAt_5068e_4 (by decide) (by omega) (fun hcq4 => absurd hcq4 (by decide)) (fun hcq4 => ?_)
  refine e_aload_n dJ0_charAt_5068e_7 rfl ?_
  refine e_getT (by unfold nX; omega) dJ0_charAt_5068e_8 w_1748 (hX i hi).1 ?_
  refine e_iload_n dJ0_charAt_5068e_11 rfl ?_
  refine c_S2iR (N := mJ1_charAt_3b067) dJ0_charAt_5068e_12 ls_J0_495 mo_J1_charAt_3b067  (Nat.le_of_ble_eq_true rfl) (Nat.le_of_ble_eq_true rfl) (by decide) (s_lchr D hX i hi k hk) ?_
  exact e_zret dJ0_charAt_5068e_15 rfl (tx_nar i hi k hk) (hp _ rfl)
/-- a name's number, or -1 -/
def nmV (u : Nat) (c : Int32) : Int32 := if nmI u c = 9 then -1 else nI (nmI u c)
theorem i2b_ch : ∀ b, b < 256 → ∀ i, i < 3 → ∀ k, k < (tx i).length → ((tx i).getD k 0 = (nI b).toInt8.toInt32 ↔ nI b = (tx i).getD k 0) := by decide +kernel
theorem nmV_neg {u : Nat} {c : Int32} (h : c < 0) : nmV u c = -1 := by
  have hn : ∀ x : Int32, 0 ≤ x → ¬ c = x := fun x hx e => absurd h (Int32.not_lt.mpr (by rw [e]; exact hx))
  have e9 : nmI u c = 9 := by
    unfold nmI
    (repeat' split) <;> first | rfl | (rename_i e8; exact absurd e8 (hn _ (by decide)))
  unfold nmV
  rw [if_pos e9]
theorem nmV_a0 (c : Int32) : (if (121 : Int32) = c then nI 3 else if (99 : Int32) = c then nI 2 else if (108 : Int32) = c then nI 1 else if (117 : Int32) = c then nI 0 else (-1) : Int32) = nmV 0 c := by
  by_cases hz117 : c = 117
  · subst hz117; decide
  by_cases hz108 : c = 108
  · subst hz108; decide
  by_cases hz99 : c = 99
  · subst hz99; decide
  by_cases hz121 : c = 121
  · subst hz121; decide
  have hy117 : ¬ (117 : Int32) = c := fun e => hz117 e.symm
  have hy108 : ¬ (108 : Int32) = c := fun e => hz108 e.symm
  have hy99 : ¬ (99 : Int32) = c := fun e => hz99 e.symm
  have hy121 : ¬ (121 : Int32) = c := fun e => hz121 e.symm
  simp [nmV, nmI, hz117, hy117, hz108, hy108, hz99, hy99, hz121, hy121]
set_option maxRecDepth 20000 in
theorem s_nameOf0 (D : En) {h : AH} {N : Nat → Int32} {σ : Nat → Nat → Int32} {τ : Nat → Int32} (hR : RefAt h N σ τ) (hu : τ 3 = nI 0) (c : Int32) : Sp D 4 mX12_nameOf [.ref (82), .int (c)] h 0 0 (some (.int (nmV 0 c))) (fun h' => h' = h) := by
  obtain ⟨g, hg, hgc⟩ := hR.2.2.2.1
  intro post hp
  show Ev D 4 mX12_nameOf 0 [some (.ref (82)), some (.int (c)), none, none] [] h 0 0 post
  refine e_iconst (((-1))) dX12_nameOf_0 (by decide) ?_
  refine e_istore_n dX12_nameOf_1 (by decide) ?_
  refine e_iconst (nI (0)) dX12_nameOf_2 (by decide) ?_
  refine e_istore_n dX12_nameOf_3 (by decide) ?_
  refine e_iload_n dX12_nameOf_4 rfl ?_
  refine e_aload_n dX12_nameOf_5 rfl ?_
  refine e_get dX12_nameOf_6 fl_X12_36_12 hR.1 rfl ?_
  refine e_aload_n dX12_nameOf_9 rfl ?_
  refine e_get dX12_nameOf_10 fl_X12_209_12 hR.1 rfl ?_
  refine e_top (nI (0)) (hu) ?_
  refine e_ald (v := some (4 + 0)) 0 dX12_nameOf_13 hgc (Or.inr (Or.inr (Or.inr rfl))) rfl (by decide) (by decide) (hg 0 (by decide)) ?_
  refine c_V0iR (N := mJ0_length_8abf5) dX12_nameOf_14 lv_X12_212 mo_J0_length_8abf5 (Or.inr ⟨rfl, by unfold nX; omega, _, (hR.2.2.2.2 0 (by decide)).1⟩) (Nat.le_of_ble_eq_true rfl) (Nat.le_of_ble_eq_true rfl) (by decide) (s_len D hR.2.2.2.2 0 (by decide)) ?_
  refine e_top (nI (4)) (by decide) ?_
  refine e_icmp_geN 49 dX12_nameOf_17 (by decide) (by omega) (by omega) (fun hcq17 => absurd hcq17 (by decide)) (fun hcq17 => ?_)
  refine e_aload_n dX12_nameOf_20 rfl ?_
  refine e_get dX12_nameOf_21 fl_X12_36_12 hR.1 rfl ?_
  refine e_aload_n dX12_nameOf_24 rfl ?_
  refine e_get dX12_nameOf_25 fl_X12_209_12 hR.1 rfl ?_
  refine e_top (nI (0)) (hu) ?_
  refine e_ald (v := some (4 + 0)) 0 dX12_nameOf_28 hgc (Or.inr (Or.inr (Or.inr rfl))) rfl (by decide) (by decide) (hg 0 (by decide)) ?_
  refine e_iload_n dX12_nameOf_29 rfl ?_
  refine c_V1iR (N := mJ0_charAt_5068e) dX12_nameOf_30 lv_X12_215 mo_J0_charAt_5068e (Or.inr ⟨rfl, by unfold nX; omega, _, (hR.2.2.2.2 0 (by decide)).1⟩) (Nat.le_of_ble_eq_true rfl) (Nat.le_of_ble_eq_true rfl) (by decide) (s_chr D hR.2.2.2.2 0 (by decide) 0 (by decide)) ?_
  refine e_top (117) (by decide) ?_
  refine e_iload_n dX12_nameOf_33 rfl ?_
  have K1 : Ev D 4 mX12_nameOf 42 [some (.ref (82)), some (.int (c)), some (.int ((-1))), some (.int (nI (0)))] [.int (if (117 : Int32) = c then nI (0) else ((-1)))] h 0 0 post := by
    refine e_istore_n dX12_nameOf_42 (by decide) ?_
    refine e_iincN 1 dX12_nameOf_43 rfl (by decide) (nI_add 0 1) ?_
    refine e_goto 4 dX12_nameOf_46 (by decide) ?_
    refine e_iload_n dX12_nameOf_4 rfl ?_
    refine e_aload_n dX12_nameOf_5 rfl ?_
    refine e_get dX12_nameOf_6 fl_X12_36_12 hR.1 rfl ?_
    refine e_aload_n dX12_nameOf_9 rfl ?_
    refine e_get dX12_nameOf_10 fl_X12_209_12 hR.1 rfl ?_
    refine e_top (nI (0)) (hu) ?_
    refine e_ald (v := some (4 + 0)) 0 dX12_nameOf_13 hgc (Or.inr (Or.inr (Or.inr rfl))) rfl (by decide) (by decide) (hg 0 (by decide)) ?_
    refine c_V0iR (N := mJ0_length_8abf5) dX12_nameOf_14 lv_X12_212 mo_J0_length_8abf5 (Or.inr ⟨rfl, by unfold nX; omega, _, (hR.2.2.2.2 0 (by decide)).1⟩) (Nat.le_of_ble_eq_true rfl) (Nat.le_of_ble_eq_true rfl) (by decide) (s_len D hR.2.2.2.2 0 (by decide)) ?_
    refine e_top (nI (4)) (by decide) ?_
    refine e_icmp_geN 49 dX12_nameOf_17 (by decide) (by omega) (by omega) (fun hcq17 => absurd hcq17 (by decide)) (fun hcq17 => ?_)
    refine e_aload_n dX12_nameOf_20 rfl ?_
    refine e_get dX12_nameOf_21 fl_X12_36_12 hR.1 rfl ?_
    refine e_aload_n dX12_nameOf_24 rfl ?_
    refine e_get dX12_nameOf_25 fl_X12_209_12 hR.1 rfl ?_
    refine e_top (nI (0)) (hu) ?_
    refine e_ald (v := some (4 + 0)) 0 dX12_nameOf_28 hgc (Or.inr (Or.inr (Or.inr rfl))) rfl (by decide) (by decide) (hg 0 (by decide)) ?_
    refine e_iload_n dX12_nameOf_29 rfl ?_
    refine c_V1iR (N := mJ0_charAt_5068e) dX12_nameOf_30 lv_X12_215 mo_J0_charAt_5068e (Or.inr ⟨rfl, by unfold nX; omega, _, (hR.2.2.2.2 0 (by decide)).1⟩) (Nat.le_of_ble_eq_true rfl) (Nat.le_of_ble_eq_true rfl) (by decide) (s_chr D hR.2.2.2.2 0 (by decide) 1 (by decide)) ?_
    refine e_top (108) (by decide) ?_
    refine e_iload_n dX12_nameOf_33 rfl ?_
    have K2 : Ev D 4 mX12_nameOf 42 [some (.ref (82)), some (.int (c)), some (.int (if (117 : Int32) = c then nI (0) else ((-1)))), some (.int (nI (1)))] [.int (if (108 : Int32) = c then nI (1) else (if (117 : Int32) = c then nI (0) else ((-1))))] h 0 0 post := by
      refine e_istore_n dX12_nameOf_42 (by decide) ?_
      refine e_iincN 2 dX12_nameOf_43 rfl (by decide) (nI_add 1 1) ?_
      refine e_goto 4 dX12_nameOf_46 (by decide) ?_
      refine e_iload_n dX12_nameOf_4 rfl ?_
      refine e_aload_n dX12_nameOf_5 rfl ?_
      refine e_get dX12_nameOf_6 fl_X12_36_12 hR.1 rfl ?_
      refine e_aload_n dX12_nameOf_9 rfl ?_
      refine e_get dX12_nameOf_10 fl_X12_209_12 hR.1 rfl ?_
      refine e_top (nI (0)) (hu) ?_
      refine e_ald (v := some (4 + 0)) 0 dX12_nameOf_13 hgc (Or.inr (Or.inr (Or.inr rfl))) rfl (by decide) (by decide) (hg 0 (by decide)) ?_
      refine c_V0iR (N := mJ0_length_8abf5) dX12_nameOf_14 lv_X12_212 mo_J0_length_8abf5 (Or.inr ⟨rfl, by unfold nX; omega, _, (hR.2.2.2.2 0 (by decide)).1⟩) (Nat.le_of_ble_eq_true rfl) (Nat.le_of_ble_eq_true rfl) (by decide) (s_len D hR.2.2.2.2 0 (by decide)) ?_
      refine e_top (nI (4)) (by decide) ?_
      refine e_icmp_geN 49 dX12_nameOf_17 (by decide) (by omega) (by omega) (fun hcq17 => absurd hcq17 (by decide)) (fun hcq17 => ?_)
      refine e_aload_n dX12_nameOf_20 rfl ?_
      refine e_get dX12_nameOf_21 fl_X12_36_12 hR.1 rfl ?_
      refine e_aload_n dX12_nameOf_24 rfl ?_
      refine e_get dX12_nameOf_25 fl_X12_209_12 hR.1 rfl ?_
      refine e_top (nI (0)) (hu) ?_
      refine e_ald (v := some (4 + 0)) 0 dX12_nameOf_28 hgc (Or.inr (Or.inr (Or.inr rfl))) rfl (by decide) (by decide) (hg 0 (by decide)) ?_
      refine e_iload_n dX12_nameOf_29 rfl ?_
      refine c_V1iR (N := mJ0_charAt_5068e) dX12_nameOf_30 lv_X12_215 mo_J0_charAt_5068e (Or.inr ⟨rfl, by unfold nX; omega, _, (hR.2.2.2.2 0 (by decide)).1⟩) (Nat.le_of_ble_eq_true rfl) (Nat.le_of_ble_eq_true rfl) (by decide) (s_chr D hR.2.2.2.2 0 (by decide) 2 (by decide)) ?_
      refine e_top (99) (by decide) ?_
      refine e_iload_n dX12_nameOf_33 rfl ?_
      have K3 : Ev D 4 mX12_nameOf 42 [some (.ref (82)), some (.int (c)), some (.int (if (108 : Int32) = c then nI (1) else (if (117 : Int32) = c then nI (0) else ((-1))))), some (.int (nI (2)))] [.int (if (99 : Int32) = c then nI (2) else (if (108 : Int32) = c then nI (1) else (if (117 : Int32) = c then nI (0) else ((-1)))))] h 0 0 post := by
        refine e_istore_n dX12_nameOf_42 (by decide) ?_
        refine e_iincN 3 dX12_nameOf_43 rfl (by decide) (nI_add 2 1) ?_
        refine e_goto 4 dX12_nameOf_46 (by decide) ?_
        refine e_iload_n dX12_nameOf_4 rfl ?_
        refine e_aload_n dX12_nameOf_5 rfl ?_
        refine e_get dX12_nameOf_6 fl_X12_36_12 hR.1 rfl ?_
        refine e_aload_n dX12_nameOf_9 rfl ?_
        refine e_get dX12_nameOf_10 fl_X12_209_12 hR.1 rfl ?_
        refine e_top (nI (0)) (hu) ?_
        refine e_ald (v := some (4 + 0)) 0 dX12_nameOf_13 hgc (Or.inr (Or.inr (Or.inr rfl))) rfl (by decide) (by decide) (hg 0 (by decide)) ?_
        refine c_V0iR (N := mJ0_length_8abf5) dX12_nameOf_14 lv_X12_212 mo_J0_length_8abf5 (Or.inr ⟨rfl, by unfold nX; omega, _, (hR.2.2.2.2 0 (by decide)).1⟩) (Nat.le_of_ble_eq_true rfl) (Nat.le_of_ble_eq_true rfl) (by decide) (s_len D hR.2.2.2.2 0 (by decide)) ?_
        refine e_top (nI (4)) (by decide) ?_
        refine e_icmp_geN 49 dX12_nameOf_17 (by decide) (by omega) (by omega) (fun hcq17 => absurd hcq17 (by decide)) (fun hcq17 => ?_)
        refine e_aload_n dX12_nameOf_20 rfl ?_
        refine e_get dX12_nameOf_21 fl_X12_36_12 hR.1 rfl ?_
        refine e_aload_n dX12_nameOf_24 rfl ?_
        refine e_get dX12_nameOf_25 fl_X12_209_12 hR.1 rfl ?_
        refine e_top (nI (0)) (hu) ?_
        refine e_ald (v := some (4 + 0)) 0 dX12_nameOf_28 hgc (Or.inr (Or.inr (Or.inr rfl))) rfl (by decide) (by decide) (hg 0 (by decide)) ?_
        refine e_iload_n dX12_nameOf_29 rfl ?_
        refine c_V1iR (N := mJ0_charAt_5068e) dX12_nameOf_30 lv_X12_215 mo_J0_charAt_5068e (Or.inr ⟨rfl, by unfold nX; omega, _, (hR.2.2.2.2 0 (by decide)).1⟩) (Nat.le_of_ble_eq_true rfl) (Nat.le_of_ble_eq_true rfl) (by decide) (s_chr D hR.2.2.2.2 0 (by decide) 3 (by decide)) ?_
        refine e_top (121) (by decide) ?_
        refine e_iload_n dX12_nameOf_33 rfl ?_
        have K4 : Ev D 4 mX12_nameOf 42 [some (.ref (82)), some (.int (c)), some (.int (if (99 : Int32) = c then nI (2) else (if (108 : Int32) = c then nI (1) else (if (117 : Int32) = c then nI (0) else ((-1)))))), some (.int (nI (3)))] [.int (if (121 : Int32) = c then nI (3) else (if (99 : Int32) = c then nI (2) else (if (108 : Int32) = c then nI (1) else (if (117 : Int32) = c then nI (0) else ((-1))))))] h 0 0 post := by
          refine e_istore_n dX12_nameOf_42 (by decide) ?_
          refine e_iincN 4 dX12_nameOf_43 rfl (by decide) (nI_add 3 1) ?_
          refine e_goto 4 dX12_nameOf_46 (by decide) ?_
          refine e_iload_n dX12_nameOf_4 rfl ?_
          refine e_aload_n dX12_nameOf_5 rfl ?_
          refine e_get dX12_nameOf_6 fl_X12_36_12 hR.1 rfl ?_
          refine e_aload_n dX12_nameOf_9 rfl ?_
          refine e_get dX12_nameOf_10 fl_X12_209_12 hR.1 rfl ?_
          refine e_top (nI (0)) (hu) ?_
          refine e_ald (v := some (4 + 0)) 0 dX12_nameOf_13 hgc (Or.inr (Or.inr (Or.inr rfl))) rfl (by decide) (by decide) (hg 0 (by decide)) ?_
          refine c_V0iR (N := mJ0_length_8abf5) dX12_nameOf_14 lv_X12_212 mo_J0_length_8abf5 (Or.inr ⟨rfl, by unfold nX; omega, _, (hR.2.2.2.2 0 (by decide)).1⟩) (Nat.le_of_ble_eq_true rfl) (Nat.le_of_ble_eq_true rfl) (by decide) (s_len D hR.2.2.2.2 0 (by decide)) ?_
          refine e_top (nI (4)) (by decide) ?_
          refine e_icmp_geN 49 dX12_nameOf_17 (by decide) (by omega) (by omega) (fun hcq17 => ?_) (fun hcq17 => absurd hcq17 (by decide))
          refine e_iload_n dX12_nameOf_49 rfl ?_
          refine e_top (nmV 0 c) (nmV_a0 c) ?_
          exact e_iret dX12_nameOf_50 rfl (hp _ rfl)
        refine e_icmp_ne 41 dX12_nameOf_34 (by decide) (fun hcq34 => ?_) (fun hcq34 => ?_)
        · refine e_iload_n dX12_nameOf_41 rfl ?_
          exact e_top ((if (121 : Int32) = c then nI (3) else (if (99 : Int32) = c then nI (2) else (if (108 : Int32) = c then nI (1) else (if (117 : Int32) = c then nI (0) else ((-1))))))) (by first | exact (if_pos (by assumption)).symm | exact (if_neg (by assumption)).symm | exact (b2_t (by assumption)).symm | exact (b2_f (by assumption)).symm | simp_all [b2]) K4
        · refine e_iload_n dX12_nameOf_37 rfl ?_
          refine e_goto 42 dX12_nameOf_38 (by decide) ?_
          exact e_top ((if (121 : Int32) = c then nI (3) else (if (99 : Int32) = c then nI (2) else (if (108 : Int32) = c then nI (1) else (if (117 : Int32) = c then nI (0) else ((-1))))))) (by first | exact (if_pos (by assumption)).symm | exact (if_neg (by assumption)).symm | exact (b2_t (by assumption)).symm | exact (b2_f (by assumption)).symm | simp_all [b2]) K4
      refine e_icmp_ne 41 dX12_nameOf_34 (by decide) (fun hcq34 => ?_) (fun hcq34 => ?_)
      · refine e_iload_n dX12_nameOf_41 rfl ?_
        exact e_top ((if (99 : Int32) = c then nI (2) else (if (108 : Int32) = c then nI (1) else (if (117 : Int32) = c then nI (0) else ((-1)))))) (by first | exact (if_pos (by assumption)).symm | exact (if_neg (by assumption)).symm | exact (b2_t (by assumption)).symm | exact (b2_f (by assumption)).symm | simp_all [b2]) K3
      · refine e_iload_n dX12_nameOf_37 rfl ?_
        refine e_goto 42 dX12_nameOf_38 (by decide) ?_
        exact e_top ((if (99 : Int32) = c then nI (2) else (if (108 : Int32) = c then nI (1) else (if (117 : Int32) = c then nI (0) else ((-1)))))) (by first | exact (if_pos (by assumption)).symm | exact (if_neg (by assumption)).symm | exact (b2_t (by assumption)).symm | exact (b2_f (by assumption)).symm | simp_all [b2]) K3
    refine e_icmp_ne 41 dX12_nameOf_34 (by decide) (fun hcq34 => ?_) (fun hcq34 => ?_)
    · refine e_iload_n dX12_nameOf_41 rfl ?_
      exact e_top ((if (108 : Int32) = c then nI (1) else (if (117 : Int32) = c then nI (0) else ((-1))))) (by first | exact (if_pos (by assumption)).symm | exact (if_neg (by assumption)).symm | exact (b2_t (by assumption)).symm | exact (b2_f (by assumption)).symm | simp_all [b2]) K2
    · refine e_iload_n dX12_nameOf_37 rfl ?_
      refine e_goto 42 dX12_nameOf_38 (by decide) ?_
      exact e_top ((if (108 : Int32) = c then nI (1) else (if (117 : Int32) = c then nI (0) else ((-1))))) (by first | exact (if_pos (by assumption)).symm | exact (if_neg (by assumption)).symm | exact (b2_t (by assumption)).symm | exact (b2_f (by assumption)).symm | simp_all [b2]) K2
  refine e_icmp_ne 41 dX12_nameOf_34 (by decide) (fun hcq34 => ?_) (fun hcq34 => ?_)
  · refine e_iload_n dX12_nameOf_41 rfl ?_
    exact e_top ((if (117 : Int32) = c then nI (0) else ((-1)))) (by first | exact (if_pos (by assumption)).symm | exact (if_neg (by assumption)).symm | exact (b2_t (by assumption)).symm | exact (b2_f (by assumption)).symm | simp_all [b2]) K1
  · refine e_iload_n dX12_nameOf_37 rfl ?_
    refine e_goto 42 dX12_nameOf_38 (by decide) ?_
    exact e_top ((if (117 : Int32) = c then nI (0) else ((-1)))) (by first | exact (if_pos (by assumption)).symm | exact (if_neg (by assumption)).symm | exact (b2_t (by assumption)).symm | exact (b2_f (by assumption)).symm | simp_all [b2]) K1
theorem nmV_a1 (c : Int32) : (if (110 : Int32) = c then nI 2 else if (119 : Int32) = c then nI 1 else if (115 : Int32) = c then nI 0 else (-1) : Int32) = nmV 1 c := by
  by_cases hz115 : c = 115
  · subst hz115; decide
  by_cases hz119 : c = 119
  · subst hz119; decide
  by_cases hz110 : c = 110
  · subst hz110; decide
  have hy115 : ¬ (115 : Int32) = c := fun e => hz115 e.symm
  have hy119 : ¬ (119 : Int32) = c := fun e => hz119 e.symm
  have hy110 : ¬ (110 : Int32) = c := fun e => hz110 e.symm
  simp [nmV, nmI, hz115, hy115, hz119, hy119, hz110, hy110]
set_option maxRecDepth 20000 in
theorem s_nameOf1 (D : En) {h : AH} {N : Nat → Int32} {σ : Nat → Nat → Int32} {τ : Nat → Int32} (hR : RefAt h N σ τ) (hu : τ 3 = nI 1) (c : Int32) : Sp D 4 mX12_nameOf [.ref (82), .int (c)] h 0 0 (some (.int (nmV 1 c))) (fun h' => h' = h) := by
  obtain ⟨g, hg, hgc⟩ := hR.2.2.2.1
  intro post hp
  show Ev D 4 mX12_nameOf 0 [some (.ref (82)), some (.int (c)), none, none] [] h 0 0 post
  refine e_iconst (((-1))) dX12_nameOf_0 (by decide) ?_
  refine e_istore_n dX12_nameOf_1 (by decide) ?_
  refine e_iconst (nI (0)) dX12_nameOf_2 (by decide) ?_
  refine e_istore_n dX12_nameOf_3 (by decide) ?_
  refine e_iload_n dX12_nameOf_4 rfl ?_
  refine e_aload_n dX12_nameOf_5 rfl ?_
  refine e_get dX12_nameOf_6 fl_X12_36_12 hR.1 rfl ?_
  refine e_aload_n dX12_nameOf_9 rfl ?_
  refine e_get dX12_nameOf_10 fl_X12_209_12 hR.1 rfl ?_
  refine e_top (nI (1)) (hu) ?_
  refine e_ald (v := some (4 + 1)) 1 dX12_nameOf_13 hgc (Or.inr (Or.inr (Or.inr rfl))) rfl (by decide) (by decide) (hg 1 (by decide)) ?_
  refine c_V0iR (N := mJ0_length_8abf5) dX12_nameOf_14 lv_X12_212 mo_J0_length_8abf5 (Or.inr ⟨rfl, by unfold nX; omega, _, (hR.2.2.2.2 1 (by decide)).1⟩) (Nat.le_of_ble_eq_true rfl) (Nat.le_of_ble_eq_true rfl) (by decide) (s_len D hR.2.2.2.2 1 (by decide)) ?_
  refine e_top (nI (3)) (by decide) ?_
  refine e_icmp_geN 49 dX12_nameOf_17 (by decide) (by omega) (by omega) (fun hcq17 => absurd hcq17 (by decide)) (fun hcq17 => ?_)
  refine e_aload_n dX12_nameOf_20 rfl ?_
  refine e_get dX12_nameOf_21 fl_X12_36_12 hR.1 rfl ?_
  refine e_aload_n dX12_nameOf_24 rfl ?_
  refine e_get dX12_nameOf_25 fl_X12_209_12 hR.1 rfl ?_
  refine e_top (nI (1)) (hu) ?_
  refine e_ald (v := some (4 + 1)) 1 dX12_nameOf_28 hgc (Or.inr (Or.inr (Or.inr rfl))) rfl (by decide) (by decide) (hg 1 (by decide)) ?_
  refine e_iload_n dX12_nameOf_29 rfl ?_
  refine c_V1iR (N := mJ0_charAt_5068e) dX12_nameOf_30 lv_X12_215 mo_J0_charAt_5068e (Or.inr ⟨rfl, by unfold nX; omega, _, (hR.2.2.2.2 1 (by decide)).1⟩) (Nat.le_of_ble_eq_true rfl) (Nat.le_of_ble_eq_true rfl) (by decide) (s_chr D hR.2.2.2.2 1 (by decide) 0 (by decide)) ?_
  refine e_top (115) (by decide) ?_
  refine e_iload_n dX12_nameOf_33 rfl ?_
  have K1 : Ev D 4 mX12_nameOf 42 [some (.ref (82)), some (.int (c)), some (.int ((-1))), some (.int (nI (0)))] [.int (if (115 : Int32) = c then nI (0) else ((-1)))] h 0 0 post := by
    refine e_istore_n dX12_nameOf_42 (by decide) ?_
    refine e_iincN 1 dX12_nameOf_43 rfl (by decide) (nI_add 0 1) ?_
    refine e_goto 4 dX12_nameOf_46 (by decide) ?_
    refine e_iload_n dX12_nameOf_4 rfl ?_
    refine e_aload_n dX12_nameOf_5 rfl ?_
    refine e_get dX12_nameOf_6 fl_X12_36_12 hR.1 rfl ?_
    refine e_aload_n dX12_nameOf_9 rfl ?_
    refine e_get dX12_nameOf_10 fl_X12_209_12 hR.1 rfl ?_
    refine e_top (nI (1)) (hu) ?_
    refine e_ald (v := some (4 + 1)) 1 dX12_nameOf_13 hgc (Or.inr (Or.inr (Or.inr rfl))) rfl (by decide) (by decide) (hg 1 (by decide)) ?_
    refine c_V0iR (N := mJ0_length_8abf5) dX12_nameOf_14 lv_X12_212 mo_J0_length_8abf5 (Or.inr ⟨rfl, by unfold nX; omega, _, (hR.2.2.2.2 1 (by decide)).1⟩) (Nat.le_of_ble_eq_true rfl) (Nat.le_of_ble_eq_true rfl) (by decide) (s_len D hR.2.2.2.2 1 (by decide)) ?_
    refine e_top (nI (3)) (by decide) ?_
    refine e_icmp_geN 49 dX12_nameOf_17 (by decide) (by omega) (by omega) (fun hcq17 => absurd hcq17 (by decide)) (fun hcq17 => ?_)
    refine e_aload_n dX12_nameOf_20 rfl ?_
    refine e_get dX12_nameOf_21 fl_X12_36_12 hR.1 rfl ?_
    refine e_aload_n dX12_nameOf_24 rfl ?_
    refine e_get dX12_nameOf_25 fl_X12_209_12 hR.1 rfl ?_
    refine e_top (nI (1)) (hu) ?_
    refine e_ald (v := some (4 + 1)) 1 dX12_nameOf_28 hgc (Or.inr (Or.inr (Or.inr rfl))) rfl (by decide) (by decide) (hg 1 (by decide)) ?_
    refine e_iload_n dX12_nameOf_29 rfl ?_
    refine c_V1iR (N := mJ0_charAt_5068e) dX12_nameOf_30 lv_X12_215 mo_J0_charAt_5068e (Or.inr ⟨rfl, by unfold nX; omega, _, (hR.2.2.2.2 1 (by decide)).1⟩) (Nat.le_of_ble_eq_true rfl) (Nat.le_of_ble_eq_true rfl) (by decide) (s_chr D hR.2.2.2.2 1 (by decide) 1 (by decide)) ?_
    refine e_top (119) (by decide) ?_
    refine e_iload_n dX12_nameOf_33 rfl ?_
    have K2 : Ev D 4 mX12_nameOf 42 [some (.ref (82)), some (.int (c)), some (.int (if (115 : Int32) = c then nI (0) else ((-1)))), some (.int (nI (1)))] [.int (if (119 : Int32) = c then nI (1) else (if (115 : Int32) = c then nI (0) else ((-1))))] h 0 0 post := by
      refine e_istore_n dX12_nameOf_42 (by decide) ?_
      refine e_iincN 2 dX12_nameOf_43 rfl (by decide) (nI_add 1 1) ?_
      refine e_goto 4 dX12_nameOf_46 (by decide) ?_
      refine e_iload_n dX12_nameOf_4 rfl ?_
      refine e_aload_n dX12_nameOf_5 rfl ?_
      refine e_get dX12_nameOf_6 fl_X12_36_12 hR.1 rfl ?_
      refine e_aload_n dX12_nameOf_9 rfl ?_
      refine e_get dX12_nameOf_10 fl_X12_209_12 hR.1 rfl ?_
      refine e_top (nI (1)) (hu) ?_
      refine e_ald (v := some (4 + 1)) 1 dX12_nameOf_13 hgc (Or.inr (Or.inr (Or.inr rfl))) rfl (by decide) (by decide) (hg 1 (by decide)) ?_
      refine c_V0iR (N := mJ0_length_8abf5) dX12_nameOf_14 lv_X12_212 mo_J0_length_8abf5 (Or.inr ⟨rfl, by unfold nX; omega, _, (hR.2.2.2.2 1 (by decide)).1⟩) (Nat.le_of_ble_eq_true rfl) (Nat.le_of_ble_eq_true rfl) (by decide) (s_len D hR.2.2.2.2 1 (by decide)) ?_
      refine e_top (nI (3)) (by decide) ?_
      refine e_icmp_geN 49 dX12_nameOf_17 (by decide) (by omega) (by omega) (fun hcq17 => absurd hcq17 (by decide)) (fun hcq17 => ?_)
      refine e_aload_n dX12_nameOf_20 rfl ?_
      refine e_get dX12_nameOf_21 fl_X12_36_12 hR.1 rfl ?_
      refine e_aload_n dX12_nameOf_24 rfl ?_
      refine e_get dX12_nameOf_25 fl_X12_209_12 hR.1 rfl ?_
      refine e_top (nI (1)) (hu) ?_
      refine e_ald (v := some (4 + 1)) 1 dX12_nameOf_28 hgc (Or.inr (Or.inr (Or.inr rfl))) rfl (by decide) (by decide) (hg 1 (by decide)) ?_
      refine e_iload_n dX12_nameOf_29 rfl ?_
      refine c_V1iR (N := mJ0_charAt_5068e) dX12_nameOf_30 lv_X12_215 mo_J0_charAt_5068e (Or.inr ⟨rfl, by unfold nX; omega, _, (hR.2.2.2.2 1 (by decide)).1⟩) (Nat.le_of_ble_eq_true rfl) (Nat.le_of_ble_eq_true rfl) (by decide) (s_chr D hR.2.2.2.2 1 (by decide) 2 (by decide)) ?_
      refine e_top (110) (by decide) ?_
      refine e_iload_n dX12_nameOf_33 rfl ?_
      have K3 : Ev D 4 mX12_nameOf 42 [some (.ref (82)), some (.int (c)), some (.int (if (119 : Int32) = c then nI (1) else (if (115 : Int32) = c then nI (0) else ((-1))))), some (.int (nI (2)))] [.int (if (110 : Int32) = c then nI (2) else (if (119 : Int32) = c then nI (1) else (if (115 : Int32) = c then nI (0) else ((-1)))))] h 0 0 post := by
        refine e_istore_n dX12_nameOf_42 (by decide) ?_
        refine e_iincN 3 dX12_nameOf_43 rfl (by decide) (nI_add 2 1) ?_
        refine e_goto 4 dX12_nameOf_46 (by decide) ?_
        refine e_iload_n dX12_nameOf_4 rfl ?_
        refine e_aload_n dX12_nameOf_5 rfl ?_
        refine e_get dX12_nameOf_6 fl_X12_36_12 hR.1 rfl ?_
        refine e_aload_n dX12_nameOf_9 rfl ?_
        refine e_get dX12_nameOf_10 fl_X12_209_12 hR.1 rfl ?_
        refine e_top (nI (1)) (hu) ?_
        refine e_ald (v := some (4 + 1)) 1 dX12_nameOf_13 hgc (Or.inr (Or.inr (Or.inr rfl))) rfl (by decide) (by decide) (hg 1 (by decide)) ?_
        refine c_V0iR (N := mJ0_length_8abf5) dX12_nameOf_14 lv_X12_212 mo_J0_length_8abf5 (Or.inr ⟨rfl, by unfold nX; omega, _, (hR.2.2.2.2 1 (by decide)).1⟩) (Nat.le_of_ble_eq_true rfl) (Nat.le_of_ble_eq_true rfl) (by decide) (s_len D hR.2.2.2.2 1 (by decide)) ?_
        refine e_top (nI (3)) (by decide) ?_
        refine e_icmp_geN 49 dX12_nameOf_17 (by decide) (by omega) (by omega) (fun hcq17 => ?_) (fun hcq17 => absurd hcq17 (by decide))
        refine e_iload_n dX12_nameOf_49 rfl ?_
        refine e_top (nmV 1 c) (nmV_a1 c) ?_
        exact e_iret dX12_nameOf_50 rfl (hp _ rfl)
      refine e_icmp_ne 41 dX12_nameOf_34 (by decide) (fun hcq34 => ?_) (fun hcq34 => ?_)
      · refine e_iload_n dX12_nameOf_41 rfl ?_
        exact e_top ((if (110 : Int32) = c then nI (2) else (if (119 : Int32) = c then nI (1) else (if (115 : Int32) = c then nI (0) else ((-1)))))) (by first | exact (if_pos (by assumption)).symm | exact (if_neg (by assumption)).symm | exact (b2_t (by assumption)).symm | exact (b2_f (by assumption)).symm | simp_all [b2]) K3
      · refine e_iload_n dX12_nameOf_37 rfl ?_
        refine e_goto 42 dX12_nameOf_38 (by decide) ?_
        exact e_top ((if (110 : Int32) = c then nI (2) else (if (119 : Int32) = c then nI (1) else (if (115 : Int32) = c then nI (0) else ((-1)))))) (by first | exact (if_pos (by assumption)).symm | exact (if_neg (by assumption)).symm | exact (b2_t (by assumption)).symm | exact (b2_f (by assumption)).symm | simp_all [b2]) K3
    refine e_icmp_ne 41 dX12_nameOf_34 (by decide) (fun hcq34 => ?_) (fun hcq34 => ?_)
    · refine e_iload_n dX12_nameOf_41 rfl ?_
      exact e_top ((if (119 : Int32) = c then nI (1) else (if (115 : Int32) = c then nI (0) else ((-1))))) (by first | exact (if_pos (by assumption)).symm | exact (if_neg (by assumption)).symm | exact (b2_t (by assumption)).symm | exact (b2_f (by assumption)).symm | simp_all [b2]) K2
    · refine e_iload_n dX12_nameOf_37 rfl ?_
      refine e_goto 42 dX12_nameOf_38 (by decide) ?_
      exact e_top ((if (119 : Int32) = c then nI (1) else (if (115 : Int32) = c then nI (0) else ((-1))))) (by first | exact (if_pos (by assumption)).symm | exact (if_neg (by assumption)).symm | exact (b2_t (by assumption)).symm | exact (b2_f (by assumption)).symm | simp_all [b2]) K2
  refine e_icmp_ne 41 dX12_nameOf_34 (by decide) (fun hcq34 => ?_) (fun hcq34 => ?_)
  · refine e_iload_n dX12_nameOf_41 rfl ?_
    exact e_top ((if (115 : Int32) = c then nI (0) else ((-1)))) (by first | exact (if_pos (by assumption)).symm | exact (if_neg (by assumption)).symm | exact (b2_t (by assumption)).symm | exact (b2_f (by assumption)).symm | simp_all [b2]) K1
  · refine e_iload_n dX12_nameOf_37 rfl ?_
    refine e_goto 42 dX12_nameOf_38 (by decide) ?_
    exact e_top ((if (115 : Int32) = c then nI (0) else ((-1)))) (by first | exact (if_pos (by assumption)).symm | exact (if_neg (by assumption)).symm | exact (b2_t (by assumption)).symm | exact (b2_f (by assumption)).symm | simp_all [b2]) K1
theorem nmV_a2 (c : Int32) : (if (110 : Int32) = c then nI 1 else if (119 : Int32) = c then nI 0 else (-1) : Int32) = nmV 2 c := by
  by_cases hz119 : c = 119
  · subst hz119; decide
  by_cases hz110 : c = 110
  · subst hz110; decide
  have hy119 : ¬ (119 : Int32) = c := fun e => hz119 e.symm
  have hy110 : ¬ (110 : Int32) = c := fun e => hz110 e.symm
  simp [nmV, nmI, hz119, hy119, hz110, hy110]
set_option maxRecDepth 20000 in
theorem s_nameOf2 (D : En) {h : AH} {N : Nat → Int32} {σ : Nat → Nat → Int32} {τ : Nat → Int32} (hR : RefAt h N σ τ) (hu : τ 3 = nI 2) (c : Int32) : Sp D 4 mX12_nameOf [.ref (82), .int (c)] h 0 0 (some (.int (nmV 2 c))) (fun h' => h' = h) := by
  obtain ⟨g, hg, hgc⟩ := hR.2.2.2.1
  intro post hp
  show Ev D 4 mX12_nameOf 0 [some (.ref (82)), some (.int (c)), none, none] [] h 0 0 post
  refine e_iconst (((-1))) dX12_nameOf_0 (by decide) ?_
  refine e_istore_n dX12_nameOf_1 (by decide) ?_
  refine e_iconst (nI (0)) dX12_nameOf_2 (by decide) ?_
  refine e_istore_n dX12_nameOf_3 (by decide) ?_
  refine e_iload_n dX12_nameOf_4 rfl ?_
  refine e_aload_n dX12_nameOf_5 rfl ?_
  refine e_get dX12_nameOf_6 fl_X12_36_12 hR.1 rfl ?_
  refine e_aload_n dX12_nameOf_9 rfl ?_
  refine e_get dX12_nameOf_10 fl_X12_209_12 hR.1 rfl ?_
  refine e_top (nI (2)) (hu) ?_
  refine e_ald (v := some (4 + 2)) 2 dX12_nameOf_13 hgc (Or.inr (Or.inr (Or.inr rfl))) rfl (by decide) (by decide) (hg 2 (by decide)) ?_
  refine c_V0iR (N := mJ0_length_8abf5) dX12_nameOf_14 lv_X12_212 mo_J0_length_8abf5 (Or.inr ⟨rfl, by unfold nX; omega, _, (hR.2.2.2.2 2 (by decide)).1⟩) (Nat.le_of_ble_eq_true rfl) (Nat.le_of_ble_eq_true rfl) (by decide) (s_len D hR.2.2.2.2 2 (by decide)) ?_
  refine e_top (nI (2)) (by decide) ?_
  refine e_icmp_geN 49 dX12_nameOf_17 (by decide) (by omega) (by omega) (fun hcq17 => absurd hcq17 (by decide)) (fun hcq17 => ?_)
  refine e_aload_n dX12_nameOf_20 rfl ?_
  refine e_get dX12_nameOf_21 fl_X12_36_12 hR.1 rfl ?_
  refine e_aload_n dX12_nameOf_24 rfl ?_
  refine e_get dX12_nameOf_25 fl_X12_209_12 hR.1 rfl ?_
  refine e_top (nI (2)) (hu) ?_
  refine e_ald (v := some (4 + 2)) 2 dX12_nameOf_28 hgc (Or.inr (Or.inr (Or.inr rfl))) rfl (by decide) (by decide) (hg 2 (by decide)) ?_
  refine e_iload_n dX12_nameOf_29 rfl ?_
  refine c_V1iR (N := mJ0_charAt_5068e) dX12_nameOf_30 lv_X12_215 mo_J0_charAt_5068e (Or.inr ⟨rfl, by unfold nX; omega, _, (hR.2.2.2.2 2 (by decide)).1⟩) (Nat.le_of_ble_eq_true rfl) (Nat.le_of_ble_eq_true rfl) (by decide) (s_chr D hR.2.2.2.2 2 (by decide) 0 (by decide)) ?_
  refine e_top (119) (by decide) ?_
  refine e_iload_n dX12_nameOf_33 rfl ?_
  have K1 : Ev D 4 mX12_nameOf 42 [some (.ref (82)), some (.int (c)), some (.int ((-1))), some (.int (nI (0)))] [.int (if (119 : Int32) = c then nI (0) else ((-1)))] h 0 0 post := by
    refine e_istore_n dX12_nameOf_42 (by decide) ?_
    refine e_iincN 1 dX12_nameOf_43 rfl (by decide) (nI_add 0 1) ?_
    refine e_goto 4 dX12_nameOf_46 (by decide) ?_
    refine e_iload_n dX12_nameOf_4 rfl ?_
    refine e_aload_n dX12_nameOf_5 rfl ?_
    refine e_get dX12_nameOf_6 fl_X12_36_12 hR.1 rfl ?_
    refine e_aload_n dX12_nameOf_9 rfl ?_
    refine e_get dX12_nameOf_10 fl_X12_209_12 hR.1 rfl ?_
    refine e_top (nI (2)) (hu) ?_
    refine e_ald (v := some (4 + 2)) 2 dX12_nameOf_13 hgc (Or.inr (Or.inr (Or.inr rfl))) rfl (by decide) (by decide) (hg 2 (by decide)) ?_
    refine c_V0iR (N := mJ0_length_8abf5) dX12_nameOf_14 lv_X12_212 mo_J0_length_8abf5 (Or.inr ⟨rfl, by unfold nX; omega, _, (hR.2.2.2.2 2 (by decide)).1⟩) (Nat.le_of_ble_eq_true rfl) (Nat.le_of_ble_eq_true rfl) (by decide) (s_len D hR.2.2.2.2 2 (by decide)) ?_
    refine e_top (nI (2)) (by decide) ?_
    refine e_icmp_geN 49 dX12_nameOf_17 (by decide) (by omega) (by omega) (fun hcq17 => absurd hcq17 (by decide)) (fun hcq17 => ?_)
    refine e_aload_n dX12_nameOf_20 rfl ?_
    refine e_get dX12_nameOf_21 fl_X12_36_12 hR.1 rfl ?_
    refine e_aload_n dX12_nameOf_24 rfl ?_
    refine e_get dX12_nameOf_25 fl_X12_209_12 hR.1 rfl ?_
    refine e_top (nI (2)) (hu) ?_
    refine e_ald (v := some (4 + 2)) 2 dX12_nameOf_28 hgc (Or.inr (Or.inr (Or.inr rfl))) rfl (by decide) (by decide) (hg 2 (by decide)) ?_
    refine e_iload_n dX12_nameOf_29 rfl ?_
    refine c_V1iR (N := mJ0_charAt_5068e) dX12_nameOf_30 lv_X12_215 mo_J0_charAt_5068e (Or.inr ⟨rfl, by unfold nX; omega, _, (hR.2.2.2.2 2 (by decide)).1⟩) (Nat.le_of_ble_eq_true rfl) (Nat.le_of_ble_eq_true rfl) (by decide) (s_chr D hR.2.2.2.2 2 (by decide) 1 (by decide)) ?_
    refine e_top (110) (by decide) ?_
    refine e_iload_n dX12_nameOf_33 rfl ?_
    have K2 : Ev D 4 mX12_nameOf 42 [some (.ref (82)), some (.int (c)), some (.int (if (119 : Int32) = c then nI (0) else ((-1)))), some (.int (nI (1)))] [.int (if (110 : Int32) = c then nI (1) else (if (119 : Int32) = c then nI (0) else ((-1))))] h 0 0 post := by
      refine e_istore_n dX12_nameOf_42 (by decide) ?_
      refine e_iincN 2 dX12_nameOf_43 rfl (by decide) (nI_add 1 1) ?_
      refine e_goto 4 dX12_nameOf_46 (by decide) ?_
      refine e_iload_n dX12_nameOf_4 rfl ?_
      refine e_aload_n dX12_nameOf_5 rfl ?_
      refine e_get dX12_nameOf_6 fl_X12_36_12 hR.1 rfl ?_
      refine e_aload_n dX12_nameOf_9 rfl ?_
      refine e_get dX12_nameOf_10 fl_X12_209_12 hR.1 rfl ?_
      refine e_top (nI (2)) (hu) ?_
      refine e_ald (v := some (4 + 2)) 2 dX12_nameOf_13 hgc (Or.inr (Or.inr (Or.inr rfl))) rfl (by decide) (by decide) (hg 2 (by decide)) ?_
      refine c_V0iR (N := mJ0_length_8abf5) dX12_nameOf_14 lv_X12_212 mo_J0_length_8abf5 (Or.inr ⟨rfl, by unfold nX; omega, _, (hR.2.2.2.2 2 (by decide)).1⟩) (Nat.le_of_ble_eq_true rfl) (Nat.le_of_ble_eq_true rfl) (by decide) (s_len D hR.2.2.2.2 2 (by decide)) ?_
      refine e_top (nI (2)) (by decide) ?_
      refine e_icmp_geN 49 dX12_nameOf_17 (by decide) (by omega) (by omega) (fun hcq17 => ?_) (fun hcq17 => absurd hcq17 (by decide))
      refine e_iload_n dX12_nameOf_49 rfl ?_
      refine e_top (nmV 2 c) (nmV_a2 c) ?_
      exact e_iret dX12_nameOf_50 rfl (hp _ rfl)
    refine e_icmp_ne 41 dX12_nameOf_34 (by decide) (fun hcq34 => ?_) (fun hcq34 => ?_)
    · refine e_iload_n dX12_nameOf_41 rfl ?_
      exact e_top ((if (110 : Int32) = c then nI (1) else (if (119 : Int32) = c then nI (0) else ((-1))))) (by first | exact (if_pos (by assumption)).symm | exact (if_neg (by assumption)).symm | exact (b2_t (by assumption)).symm | exact (b2_f (by assumption)).symm | simp_all [b2]) K2
    · refine e_iload_n dX12_nameOf_37 rfl ?_
      refine e_goto 42 dX12_nameOf_38 (by decide) ?_
      exact e_top ((if (110 : Int32) = c then nI (1) else (if (119 : Int32) = c then nI (0) else ((-1))))) (by first | exact (if_pos (by assumption)).symm | exact (if_neg (by assumption)).symm | exact (b2_t (by assumption)).symm | exact (b2_f (by assumption)).symm | simp_all [b2]) K2
  refine e_icmp_ne 41 dX12_nameOf_34 (by decide) (fun hcq34 => ?_) (fun hcq34 => ?_)
  · refine e_iload_n dX12_nameOf_41 rfl ?_
    exact e_top ((if (119 : Int32) = c then nI (0) else ((-1)))) (by first | exact (if_pos (by assumption)).symm | exact (if_neg (by assumption)).symm | exact (b2_t (by assumption)).symm | exact (b2_f (by assumption)).symm | simp_all [b2]) K1
  · refine e_iload_n dX12_nameOf_37 rfl ?_
    refine e_goto 42 dX12_nameOf_38 (by decide) ?_
    exact e_top ((if (119 : Int32) = c then nI (0) else ((-1)))) (by first | exact (if_pos (by assumption)).symm | exact (if_neg (by assumption)).symm | exact (b2_t (by assumption)).symm | exact (b2_f (by assumption)).symm | simp_all [b2]) K1
theorem s_nameOf (D : En) {h : AH} {N : Nat → Int32} {σ : Nat → Nat → Int32} {τ : Nat → Int32} (hR : RefAt h N σ τ) (u : Nat) (hu3 : u < 3) (hu : τ 3 = nI u) (c : Int32) : Sp D 4 mX12_nameOf [.ref (82), .int (c)] h 0 0 (some (.int (nmV u c))) (fun h' => h' = h) := by
  rcases (show u = 0 ∨ u = 1 ∨ u = 2 by omega) with rfl | rfl | rfl
  · exact s_nameOf0 D hR hu c
  · exact s_nameOf1 D hR hu c
  · exact s_nameOf2 D hR hu c
set_option maxRecDepth 20000 in
theorem s_canE (D : En) {h : AH} (b : Nat) (hb : b < 256) : Sp D 0 mJ1_canEncode_9a6ad [.int (nI (b))] h 0 0 (some (.int (nI (1)))) (fun h' => h' = h) := by
  intro post hp
  show Ev D 0 mJ1_canEncode_9a6ad 0 [some (.int (nI (b)))] [] h 0 0 post
  refine e_iload_n dJ1_canEncode_9a6ad_0 rfl ?_
  refine e_if_ltN (tgt := 15) dJ1_canEncode_9a6ad_1 (by decide) (by omega) ?_
  refine e_iload_n dJ1_canEncode_9a6ad_4 rfl ?_
  refine e_sipush (nI (255)) dJ1_canEncode_9a6ad_5 (by decide) ?_
  refine e_icmp_gtN 15 dJ1_canEncode_9a6ad_8 (by decide) (by omega) (by omega) (fun hcq8 => absurd hcq8 (by omega)) (fun hcq8 => ?_)
  refine e_iconst (nI (1)) dJ1_canEncode_9a6ad_11 (by decide) ?_
  refine e_goto 16 dJ1_canEncode_9a6ad_12 (by decide) ?_
  exact e_zret dJ1_canEncode_9a6ad_16 rfl (by decide) (hp _ rfl)
theorem ixV_0 (b : Nat) (hb : b < 256) : nmV 0 (nI b) = (if (117 : Int32) = (nI b).toInt8.toInt32 then nI 0 else if (108 : Int32) = (nI b).toInt8.toInt32 then nI 1 else if (99 : Int32) = (nI b).toInt8.toInt32 then nI 2 else if (121 : Int32) = (nI b).toInt8.toInt32 then nI 3 else (-1) : Int32) := by
  have he0 : ((117 : Int32) = (nI b).toInt8.toInt32) ↔ nI b = 117 := i2b_ch b hb 0 (by decide) 0 (by decide)
  have he1 : ((108 : Int32) = (nI b).toInt8.toInt32) ↔ nI b = 108 := i2b_ch b hb 0 (by decide) 1 (by decide)
  have he2 : ((99 : Int32) = (nI b).toInt8.toInt32) ↔ nI b = 99 := i2b_ch b hb 0 (by decide) 2 (by decide)
  have he3 : ((121 : Int32) = (nI b).toInt8.toInt32) ↔ nI b = 121 := i2b_ch b hb 0 (by decide) 3 (by decide)
  simp only [he0, he1, he2, he3]
  generalize nI b = c
  by_cases hz117 : c = 117
  · subst hz117; decide
  by_cases hz108 : c = 108
  · subst hz108; decide
  by_cases hz99 : c = 99
  · subst hz99; decide
  by_cases hz121 : c = 121
  · subst hz121; decide
  simp [nmV, nmI, hz117, hz108, hz99, hz121]
set_option maxRecDepth 20000 in
theorem s_ixc0 (D : En) {h : AH} (hX : XH h) (b : Nat) (hb : b < 256) : Sp D 0 mJ1_indexOfChar_4cfef [.ref (7 + 0), .int (nI (b)), .int (nI (0)), .int (nI (4))] h 0 0 (some (.int (nmV 0 (nI b)))) (fun h' => h' = h) := by
  intro post hp
  show Ev D 0 mJ1_indexOfChar_4cfef 0 [some (.ref (7 + 0)), some (.int (nI (b))), some (.int (nI (0))), some (.int (nI (4))), none, none] [] h 0 0 post
  refine e_iload_n dJ1_indexOfChar_4cfef_0 rfl ?_
  refine e_i2b dJ1_indexOfChar_4cfef_1 ?_
  refine e_istore dJ1_indexOfChar_4cfef_2 (by decide) ?_
  refine e_iload_n dJ1_indexOfChar_4cfef_4 rfl ?_
  refine e_istore dJ1_indexOfChar_4cfef_5 (by decide) ?_
  refine e_iload dJ1_indexOfChar_4cfef_7 rfl ?_
  refine e_iload_n dJ1_indexOfChar_4cfef_9 rfl ?_
  refine e_icmp_geN 31 dJ1_indexOfChar_4cfef_10 (by decide) (by omega) (by omega) (fun hcq10 => absurd hcq10 (by decide)) (fun hcq10 => ?_)
  refine e_aload_n dJ1_indexOfChar_4cfef_13 rfl ?_
  refine e_iload dJ1_indexOfChar_4cfef_14 rfl ?_
  refine e_baloadX dJ1_indexOfChar_4cfef_16 (hX 0 (by decide)).2 (by decide) (vp_in_nI (by decide : 0 < (tx 0).length) (by decide)) ?_
  refine e_top (117) (by show (tx 0).getD _ 0 = _; rw [nI_clamp (by decide)]; decide) ?_
  refine e_iload dJ1_indexOfChar_4cfef_17 rfl ?_
  refine e_icmp_ne 25 dJ1_indexOfChar_4cfef_19 (by decide) (fun hcq19 => ?_) (fun hcq19 => ?_)
  · refine e_iincN 1 dJ1_indexOfChar_4cfef_25 rfl (by decide) (nI_add 0 1) ?_
    refine e_goto 7 dJ1_indexOfChar_4cfef_28 (by decide) ?_
    refine e_iload dJ1_indexOfChar_4cfef_7 rfl ?_
    refine e_iload_n dJ1_indexOfChar_4cfef_9 rfl ?_
    refine e_icmp_geN 31 dJ1_indexOfChar_4cfef_10 (by decide) (by omega) (by omega) (fun hcq10 => absurd hcq10 (by decide)) (fun hcq10 => ?_)
    refine e_aload_n dJ1_indexOfChar_4cfef_13 rfl ?_
    refine e_iload dJ1_indexOfChar_4cfef_14 rfl ?_
    refine e_baloadX dJ1_indexOfChar_4cfef_16 (hX 0 (by decide)).2 (by decide) (vp_in_nI (by decide : 1 < (tx 0).length) (by decide)) ?_
    refine e_top (108) (by show (tx 0).getD _ 0 = _; rw [nI_clamp (by decide)]; decide) ?_
    refine e_iload dJ1_indexOfChar_4cfef_17 rfl ?_
    refine e_icmp_ne 25 dJ1_indexOfChar_4cfef_19 (by decide) (fun hcq19 => ?_) (fun hcq19 => ?_)
    · refine e_iincN 2 dJ1_indexOfChar_4cfef_25 rfl (by decide) (nI_add 1 1) ?_
      refine e_goto 7 dJ1_indexOfChar_4cfef_28 (by decide) ?_
      refine e_iload dJ1_indexOfChar_4cfef_7 rfl ?_
      refine e_iload_n dJ1_indexOfChar_4cfef_9 rfl ?_
      refine e_icmp_geN 31 dJ1_indexOfChar_4cfef_10 (by decide) (by omega) (by omega) (fun hcq10 => absurd hcq10 (by decide)) (fun hcq10 => ?_)
      refine e_aload_n dJ1_indexOfChar_4cfef_13 rfl ?_
      refine e_iload dJ1_indexOfChar_4cfef_14 rfl ?_
      refine e_baloadX dJ1_indexOfChar_4cfef_16 (hX 0 (by decide)).2 (by decide) (vp_in_nI (by decide : 2 < (tx 0).length) (by decide)) ?_
      refine e_top (99) (by show (tx 0).getD _ 0 = _; rw [nI_clamp (by decide)]; decide) ?_
      refine e_iload dJ1_indexOfChar_4cfef_17 rfl ?_
      refine e_icmp_ne 25 dJ1_indexOfChar_4cfef_19 (by decide) (fun hcq19 => ?_) (fun hcq19 => ?_)
      · refine e_iincN 3 dJ1_indexOfChar_4cfef_25 rfl (by decide) (nI_add 2 1) ?_
        refine e_goto 7 dJ1_indexOfChar_4cfef_28 (by decide) ?_
        refine e_iload dJ1_indexOfChar_4cfef_7 rfl ?_
        refine e_iload_n dJ1_indexOfChar_4cfef_9 rfl ?_
        refine e_icmp_geN 31 dJ1_indexOfChar_4cfef_10 (by decide) (by omega) (by omega) (fun hcq10 => absurd hcq10 (by decide)) (fun hcq10 => ?_)
        refine e_aload_n dJ1_indexOfChar_4cfef_13 rfl ?_
        refine e_iload dJ1_indexOfChar_4cfef_14 rfl ?_
        refine e_baloadX dJ1_indexOfChar_4cfef_16 (hX 0 (by decide)).2 (by decide) (vp_in_nI (by decide : 3 < (tx 0).length) (by decide)) ?_
        refine e_top (121) (by show (tx 0).getD _ 0 = _; rw [nI_clamp (by decide)]; decide) ?_
        refine e_iload dJ1_indexOfChar_4cfef_17 rfl ?_
        refine e_icmp_ne 25 dJ1_indexOfChar_4cfef_19 (by decide) (fun hcq19 => ?_) (fun hcq19 => ?_)
        · refine e_iincN 4 dJ1_indexOfChar_4cfef_25 rfl (by decide) (nI_add 3 1) ?_
          refine e_goto 7 dJ1_indexOfChar_4cfef_28 (by decide) ?_
          refine e_iload dJ1_indexOfChar_4cfef_7 rfl ?_
          refine e_iload_n dJ1_indexOfChar_4cfef_9 rfl ?_
          refine e_icmp_geN 31 dJ1_indexOfChar_4cfef_10 (by decide) (by omega) (by omega) (fun hcq10 => ?_) (fun hcq10 => absurd hcq10 (by decide))
          refine e_iconst (((-1))) dJ1_indexOfChar_4cfef_31 (by decide) ?_
          exact e_iret dJ1_indexOfChar_4cfef_32 rfl (by first | (have hq9 := hp _ rfl; rw [ixV_0 b hb] at hq9; simp only [*, if_true, if_false, ite_true, ite_false, if_pos, if_neg, not_false_eq_true] at hq9 ⊢; exact hq9) | (have hq9 := hp _ rfl; rw [ixV_0 b hb] at hq9; simp_all))
        · refine e_iload dJ1_indexOfChar_4cfef_22 rfl ?_
          exact e_iret dJ1_indexOfChar_4cfef_24 rfl (by first | (have hq9 := hp _ rfl; rw [ixV_0 b hb] at hq9; simp only [*, if_true, if_false, ite_true, ite_false, if_pos, if_neg, not_false_eq_true] at hq9 ⊢; exact hq9) | (have hq9 := hp _ rfl; rw [ixV_0 b hb] at hq9; simp_all))
      · refine e_iload dJ1_indexOfChar_4cfef_22 rfl ?_
        exact e_iret dJ1_indexOfChar_4cfef_24 rfl (by first | (have hq9 := hp _ rfl; rw [ixV_0 b hb] at hq9; simp only [*, if_true, if_false, ite_true, ite_false, if_pos, if_neg, not_false_eq_true] at hq9 ⊢; exact hq9) | (have hq9 := hp _ rfl; rw [ixV_0 b hb] at hq9; simp_all))
    · refine e_iload dJ1_indexOfChar_4cfef_22 rfl ?_
      exact e_iret dJ1_indexOfChar_4cfef_24 rfl (by first | (have hq9 := hp _ rfl; rw [ixV_0 b hb] at hq9; simp only [*, if_true, if_false, ite_true, ite_false, if_pos, if_neg, not_false_eq_true] at hq9 ⊢; exact hq9) | (have hq9 := hp _ rfl; rw [ixV_0 b hb] at hq9; simp_all))
  · refine e_iload dJ1_indexOfChar_4cfef_22 rfl ?_
    exact e_iret dJ1_indexOfChar_4cfef_24 rfl (by first | (have hq9 := hp _ rfl; rw [ixV_0 b hb] at hq9; simp only [*, if_true, if_false, ite_true, ite_false, if_pos, if_neg, not_false_eq_true] at hq9 ⊢; exact hq9) | (have hq9 := hp _ rfl; rw [ixV_0 b hb] at hq9; simp_all))
set_option maxRecDepth 20000 in
theorem s_ixl0 (D : En) {h : AH} (hX : XH h) (b : Nat) (hb : b < 256) : Sp D 1 mJ1_indexOf_4cfef [.ref (7 + 0), .int (nI (b)), .int (nI (0)), .int (nI (4))] h 0 0 (some (.int (nmV 0 (nI b)))) (fun h' => h' = h) := by
  intro post hp
  show Ev D 1 mJ1_indexOf_4cfef 0 [some (.ref (7 + 0)), some (.int (nI (b))), some (.int (nI (0))), some (.int (nI (4)))] [] h 0 0 post
  refine e_iload_n dJ1_indexOf_4cfef_0 rfl ?_
  refine c_S1iR (N := mJ1_canEncode_9a6ad) dJ1_indexOf_4cfef_1 ls_J1_88 mo_J1_canEncode_9a6ad  (Nat.le_of_ble_eq_true rfl) (Nat.le_of_ble_eq_true rfl) (by decide) (s_canE D b hb) ?_
  refine e_if_neN 9 dJ1_indexOf_4cfef_4 (by decide) (by omega) (fun hcq4 => ?_) (fun hcq4 => absurd hcq4 (by decide))
  refine e_iload_n dJ1_indexOf_4cfef_9 rfl ?_
  refine e_iconst (nI (0)) dJ1_indexOf_4cfef_10 (by decide) ?_
  refine e_mmax dJ1_indexOf_4cfef_11 mw_J1_92 (by decide) (Nat.le_of_ble_eq_true rfl) ?_
  refine e_top (nI (0)) (by decide) ?_
  refine e_istore_n dJ1_indexOf_4cfef_14 (by decide) ?_
  refine e_iload_n dJ1_indexOf_4cfef_15 rfl ?_
  refine e_aload_n dJ1_indexOf_4cfef_16 rfl ?_
  refine e_alenX dJ1_indexOf_4cfef_17 (hX 0 (by decide)).2 (by decide) ?_
  refine e_top (nI 4) (by decide) ?_
  refine e_mmin dJ1_indexOf_4cfef_18 mw_J1_38 (by decide) (Nat.le_of_ble_eq_true rfl) ?_
  refine e_top (nI (4)) (by decide) ?_
  refine e_istore_n dJ1_indexOf_4cfef_21 (by decide) ?_
  refine e_iload_n dJ1_indexOf_4cfef_22 rfl ?_
  refine e_iload_n dJ1_indexOf_4cfef_23 rfl ?_
  refine e_icmp_ltN 29 dJ1_indexOf_4cfef_24 (by decide) (by omega) (by omega) (fun hcq24 => ?_) (fun hcq24 => absurd hcq24 (by decide))
  refine e_aload_n dJ1_indexOf_4cfef_29 rfl ?_
  refine e_iload_n dJ1_indexOf_4cfef_30 rfl ?_
  refine e_iload_n dJ1_indexOf_4cfef_31 rfl ?_
  refine e_iload_n dJ1_indexOf_4cfef_32 rfl ?_
  refine c_S4iR (N := mJ1_indexOfChar_4cfef) dJ1_indexOf_4cfef_33 ls_J1_95 mo_J1_indexOfChar_4cfef  (Nat.le_of_ble_eq_true rfl) (Nat.le_of_ble_eq_true rfl) (by decide) (s_ixc0 D hX b hb) ?_
  exact e_iret dJ1_indexOf_4cfef_36 rfl (hp _ rfl)
set_option maxRecDepth 20000 in
theorem s_ix20 (D : En) {h : AH} (hX : XH h) (b : Nat) (hb : b < 256) : Sp D 2 mJ0_indexOf_7cf53 [.ref (4 + 0), .int (nI (b)), .int (nI (0))] h 0 0 (some (.int (nmV 0 (nI b)))) (fun h' => h' = h) := by
  intro post hp
  show Ev D 2 mJ0_indexOf_7cf53 0 [some (.ref (4 + 0)), some (.int (nI (b))), some (.int (nI (0)))] [] h 0 0 post
  refine e_aload_n dJ0_indexOf_7cf53_0 rfl ?_
  refine c_V0iR (N := mJ0_isLatin1_aae02) dJ0_indexOf_7cf53_1 lv_J0_492 mo_J0_isLatin1_aae02 (Or.inr ⟨rfl, by decide, _, (hX 0 (by decide)).1⟩) (Nat.le_of_ble_eq_true rfl) (Nat.le_of_ble_eq_true rfl) (by decide) (s_latin1 D hX 0 (by decide)) ?_
  refine e_if_eqN 23 dJ0_indexOf_7cf53_4 (by decide) (by omega) (fun hcq4 => absurd hcq4 (by decide)) (fun hcq4 => ?_)
  refine e_aload_n dJ0_indexOf_7cf53_7 rfl ?_
  refine e_getT (by decide) dJ0_indexOf_7cf53_8 w_1748 (hX 0 (by decide)).1 ?_
  refine e_iload_n dJ0_indexOf_7cf53_11 rfl ?_
  refine e_iload_n dJ0_indexOf_7cf53_12 rfl ?_
  refine e_aload_n dJ0_indexOf_7cf53_13 rfl ?_
  refine c_V0iR (N := mJ0_length_8abf5) dJ0_indexOf_7cf53_14 lv_J0_505 mo_J0_length_8abf5 (Or.inr ⟨rfl, by decide, _, (hX 0 (by decide)).1⟩) (Nat.le_of_ble_eq_true rfl) (Nat.le_of_ble_eq_true rfl) (by decide) (s_len D hX 0 (by decide)) ?_
  refine e_top (nI (4)) (by decide) ?_
  refine c_S4iR (N := mJ1_indexOf_4cfef) dJ0_indexOf_7cf53_17 ls_J0_637 mo_J1_indexOf_4cfef  (Nat.le_of_ble_eq_true rfl) (Nat.le_of_ble_eq_true rfl) (by decide) (s_ixl0 D hX b hb) ?_
  refine e_goto 36 dJ0_indexOf_7cf53_20 (by decide) ?_
  exact e_iret dJ0_indexOf_7cf53_36 rfl (hp _ rfl)
set_option maxRecDepth 20000 in
theorem s_ix10 (D : En) {h : AH} (hX : XH h) (b : Nat) (hb : b < 256) : Sp D 3 mJ0_indexOf_0f7a4 [.ref (4 + 0), .int (nI (b))] h 0 0 (some (.int (nmV 0 (nI b)))) (fun h' => h' = h) := by
  intro post hp
  show Ev D 3 mJ0_indexOf_0f7a4 0 [some (.ref (4 + 0)), some (.int (nI (b)))] [] h 0 0 post
  refine e_aload_n dJ0_indexOf_0f7a4_0 rfl ?_
  refine e_iload_n dJ0_indexOf_0f7a4_1 rfl ?_
  refine e_iconst (nI (0)) dJ0_indexOf_0f7a4_2 (by decide) ?_
  refine c_V2iR (N := mJ0_indexOf_7cf53) dJ0_indexOf_0f7a4_3 lv_J0_633 mo_J0_indexOf_7cf53 (Or.inr ⟨rfl, by decide, _, (hX 0 (by decide)).1⟩) (Nat.le_of_ble_eq_true rfl) (Nat.le_of_ble_eq_true rfl) (by decide) (s_ix20 D hX b hb) ?_
  exact e_iret dJ0_indexOf_0f7a4_6 rfl (hp _ rfl)
theorem ixV_1 (b : Nat) (hb : b < 256) : nmV 1 (nI b) = (if (115 : Int32) = (nI b).toInt8.toInt32 then nI 0 else if (119 : Int32) = (nI b).toInt8.toInt32 then nI 1 else if (110 : Int32) = (nI b).toInt8.toInt32 then nI 2 else (-1) : Int32) := by
  have he0 : ((115 : Int32) = (nI b).toInt8.toInt32) ↔ nI b = 115 := i2b_ch b hb 1 (by decide) 0 (by decide)
  have he1 : ((119 : Int32) = (nI b).toInt8.toInt32) ↔ nI b = 119 := i2b_ch b hb 1 (by decide) 1 (by decide)
  have he2 : ((110 : Int32) = (nI b).toInt8.toInt32) ↔ nI b = 110 := i2b_ch b hb 1 (by decide) 2 (by decide)
  simp only [he0, he1, he2]
  generalize nI b = c
  by_cases hz115 : c = 115
  · subst hz115; decide
  by_cases hz119 : c = 119
  · subst hz119; decide
  by_cases hz110 : c = 110
  · subst hz110; decide
  simp [nmV, nmI, hz115, hz119, hz110]
set_option maxRecDepth 20000 in
theorem s_ixc1 (D : En) {h : AH} (hX : XH h) (b : Nat) (hb : b < 256) : Sp D 0 mJ1_indexOfChar_4cfef [.ref (7 + 1), .int (nI (b)), .int (nI (0)), .int (nI (3))] h 0 0 (some (.int (nmV 1 (nI b)))) (fun h' => h' = h) := by
  intro post hp
  show Ev D 0 mJ1_indexOfChar_4cfef 0 [some (.ref (7 + 1)), some (.int (nI (b))), some (.int (nI (0))), some (.int (nI (3))), none, none] [] h 0 0 post
  refine e_iload_n dJ1_indexOfChar_4cfef_0 rfl ?_
  refine e_i2b dJ1_indexOfChar_4cfef_1 ?_
  refine e_istore dJ1_indexOfChar_4cfef_2 (by decide) ?_
  refine e_iload_n dJ1_indexOfChar_4cfef_4 rfl ?_
  refine e_istore dJ1_indexOfChar_4cfef_5 (by decide) ?_
  refine e_iload dJ1_indexOfChar_4cfef_7 rfl ?_
  refine e_iload_n dJ1_indexOfChar_4cfef_9 rfl ?_
  refine e_icmp_geN 31 dJ1_indexOfChar_4cfef_10 (by decide) (by omega) (by omega) (fun hcq10 => absurd hcq10 (by decide)) (fun hcq10 => ?_)
  refine e_aload_n dJ1_indexOfChar_4cfef_13 rfl ?_
  refine e_iload dJ1_indexOfChar_4cfef_14 rfl ?_
  refine e_baloadX dJ1_indexOfChar_4cfef_16 (hX 1 (by decide)).2 (by decide) (vp_in_nI (by decide : 0 < (tx 1).length) (by decide)) ?_
  refine e_top (115) (by show (tx 1).getD _ 0 = _; rw [nI_clamp (by decide)]; decide) ?_
  refine e_iload dJ1_indexOfChar_4cfef_17 rfl ?_
  refine e_icmp_ne 25 dJ1_indexOfChar_4cfef_19 (by decide) (fun hcq19 => ?_) (fun hcq19 => ?_)
  · refine e_iincN 1 dJ1_indexOfChar_4cfef_25 rfl (by decide) (nI_add 0 1) ?_
    refine e_goto 7 dJ1_indexOfChar_4cfef_28 (by decide) ?_
    refine e_iload dJ1_indexOfChar_4cfef_7 rfl ?_
    refine e_iload_n dJ1_indexOfChar_4cfef_9 rfl ?_
    refine e_icmp_geN 31 dJ1_indexOfChar_4cfef_10 (by decide) (by omega) (by omega) (fun hcq10 => absurd hcq10 (by decide)) (fun hcq10 => ?_)
    refine e_aload_n dJ1_indexOfChar_4cfef_13 rfl ?_
    refine e_iload dJ1_indexOfChar_4cfef_14 rfl ?_
    refine e_baloadX dJ1_indexOfChar_4cfef_16 (hX 1 (by decide)).2 (by decide) (vp_in_nI (by decide : 1 < (tx 1).length) (by decide)) ?_
    refine e_top (119) (by show (tx 1).getD _ 0 = _; rw [nI_clamp (by decide)]; decide) ?_
    refine e_iload dJ1_indexOfChar_4cfef_17 rfl ?_
    refine e_icmp_ne 25 dJ1_indexOfChar_4cfef_19 (by decide) (fun hcq19 => ?_) (fun hcq19 => ?_)
    · refine e_iincN 2 dJ1_indexOfChar_4cfef_25 rfl (by decide) (nI_add 1 1) ?_
      refine e_goto 7 dJ1_indexOfChar_4cfef_28 (by decide) ?_
      refine e_iload dJ1_indexOfChar_4cfef_7 rfl ?_
      refine e_iload_n dJ1_indexOfChar_4cfef_9 rfl ?_
      refine e_icmp_geN 31 dJ1_indexOfChar_4cfef_10 (by decide) (by omega) (by omega) (fun hcq10 => absurd hcq10 (by decide)) (fun hcq10 => ?_)
      refine e_aload_n dJ1_indexOfChar_4cfef_13 rfl ?_
      refine e_iload dJ1_indexOfChar_4cfef_14 rfl ?_
      refine e_baloadX dJ1_indexOfChar_4cfef_16 (hX 1 (by decide)).2 (by decide) (vp_in_nI (by decide : 2 < (tx 1).length) (by decide)) ?_
      refine e_top (110) (by show (tx 1).getD _ 0 = _; rw [nI_clamp (by decide)]; decide) ?_
      refine e_iload dJ1_indexOfChar_4cfef_17 rfl ?_
      refine e_icmp_ne 25 dJ1_indexOfChar_4cfef_19 (by decide) (fun hcq19 => ?_) (fun hcq19 => ?_)
      · refine e_iincN 3 dJ1_indexOfChar_4cfef_25 rfl (by decide) (nI_add 2 1) ?_
        refine e_goto 7 dJ1_indexOfChar_4cfef_28 (by decide) ?_
        refine e_iload dJ1_indexOfChar_4cfef_7 rfl ?_
        refine e_iload_n dJ1_indexOfChar_4cfef_9 rfl ?_
        refine e_icmp_geN 31 dJ1_indexOfChar_4cfef_10 (by decide) (by omega) (by omega) (fun hcq10 => ?_) (fun hcq10 => absurd hcq10 (by decide))
        refine e_iconst (((-1))) dJ1_indexOfChar_4cfef_31 (by decide) ?_
        exact e_iret dJ1_indexOfChar_4cfef_32 rfl (by first | (have hq9 := hp _ rfl; rw [ixV_1 b hb] at hq9; simp only [*, if_true, if_false, ite_true, ite_false, if_pos, if_neg, not_false_eq_true] at hq9 ⊢; exact hq9) | (have hq9 := hp _ rfl; rw [ixV_1 b hb] at hq9; simp_all))
      · refine e_iload dJ1_indexOfChar_4cfef_22 rfl ?_
        exact e_iret dJ1_indexOfChar_4cfef_24 rfl (by first | (have hq9 := hp _ rfl; rw [ixV_1 b hb] at hq9; simp only [*, if_true, if_false, ite_true, ite_false, if_pos, if_neg, not_false_eq_true] at hq9 ⊢; exact hq9) | (have hq9 := hp _ rfl; rw [ixV_1 b hb] at hq9; simp_all))
    · refine e_iload dJ1_indexOfChar_4cfef_22 rfl ?_
      exact e_iret dJ1_indexOfChar_4cfef_24 rfl (by first | (have hq9 := hp _ rfl; rw [ixV_1 b hb] at hq9; simp only [*, if_true, if_false, ite_true, ite_false, if_pos, if_neg, not_false_eq_true] at hq9 ⊢; exact hq9) | (have hq9 := hp _ rfl; rw [ixV_1 b hb] at hq9; simp_all))
  · refine e_iload dJ1_indexOfChar_4cfef_22 rfl ?_
    exact e_iret dJ1_indexOfChar_4cfef_24 rfl (by first | (have hq9 := hp _ rfl; rw [ixV_1 b hb] at hq9; simp only [*, if_true, if_false, ite_true, ite_false, if_pos, if_neg, not_false_eq_true] at hq9 ⊢; exact hq9) | (have hq9 := hp _ rfl; rw [ixV_1 b hb] at hq9; simp_all))
set_option maxRecDepth 20000 in
theorem s_ixl1 (D : En) {h : AH} (hX : XH h) (b : Nat) (hb : b < 256) : Sp D 1 mJ1_indexOf_4cfef [.ref (7 + 1), .int (nI (b)), .int (nI (0)), .int (nI (3))] h 0 0 (some (.int (nmV 1 (nI b)))) (fun h' => h' = h) := by
  intro post hp
  show Ev D 1 mJ1_indexOf_4cfef 0 [some (.ref (7 + 1)), some (.int (nI (b))), some (.int (nI (0))), some (.int (nI (3)))] [] h 0 0 post
  refine e_iload_n dJ1_indexOf_4cfef_0 rfl ?_
  refine c_S1iR (N := mJ1_canEncode_9a6ad) dJ1_indexOf_4cfef_1 ls_J1_88 mo_J1_canEncode_9a6ad  (Nat.le_of_ble_eq_true rfl) (Nat.le_of_ble_eq_true rfl) (by decide) (s_canE D b hb) ?_
  refine e_if_neN 9 dJ1_indexOf_4cfef_4 (by decide) (by omega) (fun hcq4 => ?_) (fun hcq4 => absurd hcq4 (by decide))
  refine e_iload_n dJ1_indexOf_4cfef_9 rfl ?_
  refine e_iconst (nI (0)) dJ1_indexOf_4cfef_10 (by decide) ?_
  refine e_mmax dJ1_indexOf_4cfef_11 mw_J1_92 (by decide) (Nat.le_of_ble_eq_true rfl) ?_
  refine e_top (nI (0)) (by decide) ?_
  refine e_istore_n dJ1_indexOf_4cfef_14 (by decide) ?_
  refine e_iload_n dJ1_indexOf_4cfef_15 rfl ?_
  refine e_aload_n dJ1_indexOf_4cfef_16 rfl ?_
  refine e_alenX dJ1_indexOf_4cfef_17 (hX 1 (by decide)).2 (by decide) ?_
  refine e_top (nI 3) (by decide) ?_
  refine e_mmin dJ1_indexOf_4cfef_18 mw_J1_38 (by decide) (Nat.le_of_ble_eq_true rfl) ?_
  refine e_top (nI (3)) (by decide) ?_
  refine e_istore_n dJ1_indexOf_4cfef_21 (by decide) ?_
  refine e_iload_n dJ1_indexOf_4cfef_22 rfl ?_
  refine e_iload_n dJ1_indexOf_4cfef_23 rfl ?_
  refine e_icmp_ltN 29 dJ1_indexOf_4cfef_24 (by decide) (by omega) (by omega) (fun hcq24 => ?_) (fun hcq24 => absurd hcq24 (by decide))
  refine e_aload_n dJ1_indexOf_4cfef_29 rfl ?_
  refine e_iload_n dJ1_indexOf_4cfef_30 rfl ?_
  refine e_iload_n dJ1_indexOf_4cfef_31 rfl ?_
  refine e_iload_n dJ1_indexOf_4cfef_32 rfl ?_
  refine c_S4iR (N := mJ1_indexOfChar_4cfef) dJ1_indexOf_4cfef_33 ls_J1_95 mo_J1_indexOfChar_4cfef  (Nat.le_of_ble_eq_true rfl) (Nat.le_of_ble_eq_true rfl) (by decide) (s_ixc1 D hX b hb) ?_
  exact e_iret dJ1_indexOf_4cfef_36 rfl (hp _ rfl)
set_option maxRecDepth 20000 in
theorem s_ix21 (D : En) {h : AH} (hX : XH h) (b : Nat) (hb : b < 256) : Sp D 2 mJ0_indexOf_7cf53 [.ref (4 + 1), .int (nI (b)), .int (nI (0))] h 0 0 (some (.int (nmV 1 (nI b)))) (fun h' => h' = h) := by
  intro post hp
  show Ev D 2 mJ0_indexOf_7cf53 0 [some (.ref (4 + 1)), some (.int (nI (b))), some (.int (nI (0)))] [] h 0 0 post
  refine e_aload_n dJ0_indexOf_7cf53_0 rfl ?_
  refine c_V0iR (N := mJ0_isLatin1_aae02) dJ0_indexOf_7cf53_1 lv_J0_492 mo_J0_isLatin1_aae02 (Or.inr ⟨rfl, by decide, _, (hX 1 (by decide)).1⟩) (Nat.le_of_ble_eq_true rfl) (Nat.le_of_ble_eq_true rfl) (by decide) (s_latin1 D hX 1 (by decide)) ?_
  refine e_if_eqN 23 dJ0_indexOf_7cf53_4 (by decide) (by omega) (fun hcq4 => absurd hcq4 (by decide)) (fun hcq4 => ?_)
  refine e_aload_n dJ0_indexOf_7cf53_7 rfl ?_
  refine e_getT (by decide) dJ0_indexOf_7cf53_8 w_1748 (hX 1 (by decide)).1 ?_
  refine e_iload_n dJ0_indexOf_7cf53_11 rfl ?_
  refine e_iload_n dJ0_indexOf_7cf53_12 rfl ?_
  refine e_aload_n dJ0_indexOf_7cf53_13 rfl ?_
  refine c_V0iR (N := mJ0_length_8abf5) dJ0_indexOf_7cf53_14 lv_J0_505 mo_J0_length_8abf5 (Or.inr ⟨rfl, by decide, _, (hX 1 (by decide)).1⟩) (Nat.le_of_ble_eq_true rfl) (Nat.le_of_ble_eq_true rfl) (by decide) (s_len D hX 1 (by decide)) ?_
  refine e_top (nI (3)) (by decide) ?_
  refine c_S4iR (N := mJ1_indexOf_4cfef) dJ0_indexOf_7cf53_17 ls_J0_637 mo_J1_indexOf_4cfef  (Nat.le_of_ble_eq_true rfl) (Nat.le_of_ble_eq_true rfl) (by decide) (s_ixl1 D hX b hb) ?_
  refine e_goto 36 dJ0_indexOf_7cf53_20 (by decide) ?_
  exact e_iret dJ0_indexOf_7cf53_36 rfl (hp _ rfl)
set_option maxRecDepth 20000 in
theorem s_ix11 (D : En) {h : AH} (hX : XH h) (b : Nat) (hb : b < 256) : Sp D 3 mJ0_indexOf_0f7a4 [.ref (4 + 1), .int (nI (b))] h 0 0 (some (.int (nmV 1 (nI b)))) (fun h' => h' = h) := by
  intro post hp
  show Ev D 3 mJ0_indexOf_0f7a4 0 [some (.ref (4 + 1)), some (.int (nI (b)))] [] h 0 0 post
  refine e_aload_n dJ0_indexOf_0f7a4_0 rfl ?_
  refine e_iload_n dJ0_indexOf_0f7a4_1 rfl ?_
  refine e_iconst (nI (0)) dJ0_indexOf_0f7a4_2 (by decide) ?_
  refine c_V2iR (N := mJ0_indexOf_7cf53) dJ0_indexOf_0f7a4_3 lv_J0_633 mo_J0_indexOf_7cf53 (Or.inr ⟨rfl, by decide, _, (hX 1 (by decide)).1⟩) (Nat.le_of_ble_eq_true rfl) (Nat.le_of_ble_eq_true rfl) (by decide) (s_ix21 D hX b hb) ?_
  exact e_iret dJ0_indexOf_0f7a4_6 rfl (hp _ rfl)
theorem ixV_2 (b : Nat) (hb : b < 256) : nmV 2 (nI b) = (if (119 : Int32) = (nI b).toInt8.toInt32 then nI 0 else if (110 : Int32) = (nI b).toInt8.toInt32 then nI 1 else (-1) : Int32) := by
  have he0 : ((119 : Int32) = (nI b).toInt8.toInt32) ↔ nI b = 119 := i2b_ch b hb 2 (by decide) 0 (by decide)
  have he1 : ((110 : Int32) = (nI b).toInt8.toInt32) ↔ nI b = 110 := i2b_ch b hb 2 (by decide) 1 (by decide)
  simp only [he0, he1]
  generalize nI b = c
  by_cases hz119 : c = 119
  · subst hz119; decide
  by_cases hz110 : c = 110
  · subst hz110; decide
  simp [nmV, nmI, hz119, hz110]
set_option maxRecDepth 20000 in
theorem s_ixc2 (D : En) {h : AH} (hX : XH h) (b : Nat) (hb : b < 256) : Sp D 0 mJ1_indexOfChar_4cfef [.ref (7 + 2), .int (nI (b)), .int (nI (0)), .int (nI (2))] h 0 0 (some (.int (nmV 2 (nI b)))) (fun h' => h' = h) := by
  intro post hp
  show Ev D 0 mJ1_indexOfChar_4cfef 0 [some (.ref (7 + 2)), some (.int (nI (b))), some (.int (nI (0))), some (.int (nI (2))), none, none] [] h 0 0 post
  refine e_iload_n dJ1_indexOfChar_4cfef_0 rfl ?_
  refine e_i2b dJ1_indexOfChar_4cfef_1 ?_
  refine e_istore dJ1_indexOfChar_4cfef_2 (by decide) ?_
  refine e_iload_n dJ1_indexOfChar_4cfef_4 rfl ?_
  refine e_istore dJ1_indexOfChar_4cfef_5 (by decide) ?_
  refine e_iload dJ1_indexOfChar_4cfef_7 rfl ?_
  refine e_iload_n dJ1_indexOfChar_4cfef_9 rfl ?_
  refine e_icmp_geN 31 dJ1_indexOfChar_4cfef_10 (by decide) (by omega) (by omega) (fun hcq10 => absurd hcq10 (by decide)) (fun hcq10 => ?_)
  refine e_aload_n dJ1_indexOfChar_4cfef_13 rfl ?_
  refine e_iload dJ1_indexOfChar_4cfef_14 rfl ?_
  refine e_baloadX dJ1_indexOfChar_4cfef_16 (hX 2 (by decide)).2 (by decide) (vp_in_nI (by decide : 0 < (tx 2).length) (by decide)) ?_
  refine e_top (119) (by show (tx 2).getD _ 0 = _; rw [nI_clamp (by decide)]; decide) ?_
  refine e_iload dJ1_indexOfChar_4cfef_17 rfl ?_
  refine e_icmp_ne 25 dJ1_indexOfChar_4cfef_19 (by decide) (fun hcq19 => ?_) (fun hcq19 => ?_)
  · refine e_iincN 1 dJ1_indexOfChar_4cfef_25 rfl (by decide) (nI_add 0 1) ?_
    refine e_goto 7 dJ1_indexOfChar_4cfef_28 (by decide) ?_
    refine e_iload dJ1_indexOfChar_4cfef_7 rfl ?_
    refine e_iload_n dJ1_indexOfChar_4cfef_9 rfl ?_
    refine e_icmp_geN 31 dJ1_indexOfChar_4cfef_10 (by decide) (by omega) (by omega) (fun hcq10 => absurd hcq10 (by decide)) (fun hcq10 => ?_)
    refine e_aload_n dJ1_indexOfChar_4cfef_13 rfl ?_
    refine e_iload dJ1_indexOfChar_4cfef_14 rfl ?_
    refine e_baloadX dJ1_indexOfChar_4cfef_16 (hX 2 (by decide)).2 (by decide) (vp_in_nI (by decide : 1 < (tx 2).length) (by decide)) ?_
    refine e_top (110) (by show (tx 2).getD _ 0 = _; rw [nI_clamp (by decide)]; decide) ?_
    refine e_iload dJ1_indexOfChar_4cfef_17 rfl ?_
    refine e_icmp_ne 25 dJ1_indexOfChar_4cfef_19 (by decide) (fun hcq19 => ?_) (fun hcq19 => ?_)
    · refine e_iincN 2 dJ1_indexOfChar_4cfef_25 rfl (by decide) (nI_add 1 1) ?_
      refine e_goto 7 dJ1_indexOfChar_4cfef_28 (by decide) ?_
      refine e_iload dJ1_indexOfChar_4cfef_7 rfl ?_
      refine e_iload_n dJ1_indexOfChar_4cfef_9 rfl ?_
      refine e_icmp_geN 31 dJ1_indexOfChar_4cfef_10 (by decide) (by omega) (by omega) (fun hcq10 => ?_) (fun hcq10 => absurd hcq10 (by decide))
      refine e_iconst (((-1))) dJ1_indexOfChar_4cfef_31 (by decide) ?_
      exact e_iret dJ1_indexOfChar_4cfef_32 rfl (by first | (have hq9 := hp _ rfl; rw [ixV_2 b hb] at hq9; simp only [*, if_true, if_false, ite_true, ite_false, if_pos, if_neg, not_false_eq_true] at hq9 ⊢; exact hq9) | (have hq9 := hp _ rfl; rw [ixV_2 b hb] at hq9; simp_all))
    · refine e_iload dJ1_indexOfChar_4cfef_22 rfl ?_
      exact e_iret dJ1_indexOfChar_4cfef_24 rfl (by first | (have hq9 := hp _ rfl; rw [ixV_2 b hb] at hq9; simp only [*, if_true, if_false, ite_true, ite_false, if_pos, if_neg, not_false_eq_true] at hq9 ⊢; exact hq9) | (have hq9 := hp _ rfl; rw [ixV_2 b hb] at hq9; simp_all))
  · refine e_iload dJ1_indexOfChar_4cfef_22 rfl ?_
    exact e_iret dJ1_indexOfChar_4cfef_24 rfl (by first | (have hq9 := hp _ rfl; rw [ixV_2 b hb] at hq9; simp only [*, if_true, if_false, ite_true, ite_false, if_pos, if_neg, not_false_eq_true] at hq9 ⊢; exact hq9) | (have hq9 := hp _ rfl; rw [ixV_2 b hb] at hq9; simp_all))
set_option maxRecDepth 20000 in
theorem s_ixl2 (D : En) {h : AH} (hX : XH h) (b : Nat) (hb : b < 256) : Sp D 1 mJ1_indexOf_4cfef [.ref (7 + 2), .int (nI (b)), .int (nI (0)), .int (nI (2))] h 0 0 (some (.int (nmV 2 (nI b)))) (fun h' => h' = h) := by
  intro post hp
  show Ev D 1 mJ1_indexOf_4cfef 0 [some (.ref (7 + 2)), some (.int (nI (b))), some (.int (nI (0))), some (.int (nI (2)))] [] h 0 0 post
  refine e_iload_n dJ1_indexOf_4cfef_0 rfl ?_
  refine c_S1iR (N := mJ1_canEncode_9a6ad) dJ1_indexOf_4cfef_1 ls_J1_88 mo_J1_canEncode_9a6ad  (Nat.le_of_ble_eq_true rfl) (Nat.le_of_ble_eq_true rfl) (by decide) (s_canE D b hb) ?_
  refine e_if_neN 9 dJ1_indexOf_4cfef_4 (by decide) (by omega) (fun hcq4 => ?_) (fun hcq4 => absurd hcq4 (by decide))
  refine e_iload_n dJ1_indexOf_4cfef_9 rfl ?_
  refine e_iconst (nI (0)) dJ1_indexOf_4cfef_10 (by decide) ?_
  refine e_mmax dJ1_indexOf_4cfef_11 mw_J1_92 (by decide) (Nat.le_of_ble_eq_true rfl) ?_
  refine e_top (nI (0)) (by decide) ?_
  refine e_istore_n dJ1_indexOf_4cfef_14 (by decide) ?_
  refine e_iload_n dJ1_indexOf_4cfef_15 rfl ?_
  refine e_aload_n dJ1_indexOf_4cfef_16 rfl ?_
  refine e_alenX dJ1_indexOf_4cfef_17 (hX 2 (by decide)).2 (by decide) ?_
  refine e_top (nI 2) (by decide) ?_
  refine e_mmin dJ1_indexOf_4cfef_18 mw_J1_38 (by decide) (Nat.le_of_ble_eq_true rfl) ?_
  refine e_top (nI (2)) (by decide) ?_
  refine e_istore_n dJ1_indexOf_4cfef_21 (by decide) ?_
  refine e_iload_n dJ1_indexOf_4cfef_22 rfl ?_
  refine e_iload_n dJ1_indexOf_4cfef_23 rfl ?_
  refine e_icmp_ltN 29 dJ1_indexOf_4cfef_24 (by decide) (by omega) (by omega) (fun hcq24 => ?_) (fun hcq24 => absurd hcq24 (by decide))
  refine e_aload_n dJ1_indexOf_4cfef_29 rfl ?_
  refine e_iload_n dJ1_indexOf_4cfef_30 rfl ?_
  refine e_iload_n dJ1_indexOf_4cfef_31 rfl ?_
  refine e_iload_n dJ1_indexOf_4cfef_32 rfl ?_
  refine c_S4iR (N := mJ1_indexOfChar_4cfef) dJ1_indexOf_4cfef_33 ls_J1_95 mo_J1_indexOfChar_4cfef  (Nat.le_of_ble_eq_true rfl) (Nat.le_of_ble_eq_true rfl) (by decide) (s_ixc2 D hX b hb) ?_
  exact e_iret dJ1_indexOf_4cfef_36 rfl (hp _ rfl)
set_option maxRecDepth 20000 in
theorem s_ix22 (D : En) {h : AH} (hX : XH h) (b : Nat) (hb : b < 256) : Sp D 2 mJ0_indexOf_7cf53 [.ref (4 + 2), .int (nI (b)), .int (nI (0))] h 0 0 (some (.int (nmV 2 (nI b)))) (fun h' => h' = h) := by
  intro post hp
  show Ev D 2 mJ0_indexOf_7cf53 0 [some (.ref (4 + 2)), some (.int (nI (b))), some (.int (nI (0)))] [] h 0 0 post
  refine e_aload_n dJ0_indexOf_7cf53_0 rfl ?_
  refine c_V0iR (N := mJ0_isLatin1_aae02) dJ0_indexOf_7cf53_1 lv_J0_492 mo_J0_isLatin1_aae02 (Or.inr ⟨rfl, by decide, _, (hX 2 (by decide)).1⟩) (Nat.le_of_ble_eq_true rfl) (Nat.le_of_ble_eq_true rfl) (by decide) (s_latin1 D hX 2 (by decide)) ?_
  refine e_if_eqN 23 dJ0_indexOf_7cf53_4 (by decide) (by omega) (fun hcq4 => absurd hcq4 (by decide)) (fun hcq4 => ?_)
  refine e_aload_n dJ0_indexOf_7cf53_7 rfl ?_
  refine e_getT (by decide) dJ0_indexOf_7cf53_8 w_1748 (hX 2 (by decide)).1 ?_
  refine e_iload_n dJ0_indexOf_7cf53_11 rfl ?_
  refine e_iload_n dJ0_indexOf_7cf53_12 rfl ?_
  refine e_aload_n dJ0_indexOf_7cf53_13 rfl ?_
  refine c_V0iR (N := mJ0_length_8abf5) dJ0_indexOf_7cf53_14 lv_J0_505 mo_J0_length_8abf5 (Or.inr ⟨rfl, by decide, _, (hX 2 (by decide)).1⟩) (Nat.le_of_ble_eq_true rfl) (Nat.le_of_ble_eq_true rfl) (by decide) (s_len D hX 2 (by decide)) ?_
  refine e_top (nI (2)) (by decide) ?_
  refine c_S4iR (N := mJ1_indexOf_4cfef) dJ0_indexOf_7cf53_17 ls_J0_637 mo_J1_indexOf_4cfef  (Nat.le_of_ble_eq_true rfl) (Nat.le_of_ble_eq_true rfl) (by decide) (s_ixl2 D hX b hb) ?_
  refine e_goto 36 dJ0_indexOf_7cf53_20 (by decide) ?_
  exact e_iret dJ0_indexOf_7cf53_36 rfl (hp _ rfl)
set_option maxRecDepth 20000 in
theorem s_ix12 (D : En) {h : AH} (hX : XH h) (b : Nat) (hb : b < 256) : Sp D 3 mJ0_indexOf_0f7a4 [.ref (4 + 2), .int (nI (b))] h 0 0 (some (.int (nmV 2 (nI b)))) (fun h' => h' = h) := by
  intro post hp
  show Ev D 3 mJ0_indexOf_0f7a4 0 [some (.ref (4 + 2)), some (.int (nI (b)))] [] h 0 0 post
  refine e_aload_n dJ0_indexOf_0f7a4_0 rfl ?_
  refine e_iload_n dJ0_indexOf_0f7a4_1 rfl ?_
  refine e_iconst (nI (0)) dJ0_indexOf_0f7a4_2 (by decide) ?_
  refine c_V2iR (N := mJ0_indexOf_7cf53) dJ0_indexOf_0f7a4_3 lv_J0_633 mo_J0_indexOf_7cf53 (Or.inr ⟨rfl, by decide, _, (hX 2 (by decide)).1⟩) (Nat.le_of_ble_eq_true rfl) (Nat.le_of_ble_eq_true rfl) (by decide) (s_ix22 D hX b hb) ?_
  exact e_iret dJ0_indexOf_0f7a4_6 rfl (hp _ rfl)
