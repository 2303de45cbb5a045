theorem and63 (x : Int32) : ∃ k, k < 64 ∧ x &&& nI 63 = nI k := by
  have e1 : (x &&& nI 63).toBitVec.toNat ≤ 63 := by
    rw [Int32.toBitVec_and, BitVec.toNat_and]
    exact Nat.and_le_right
  refine ⟨(x &&& nI 63).toBitVec.toNat, by omega, ?_⟩
  apply Int32.toBitVec_inj.mp
  apply BitVec.eq_of_toNat_eq
  rw [pk_tn (by omega)]
theorem L6 : ∀ L, L < 6 → nI L - nI 6 < nI 0 := by decide
theorem lt6 {L i : Nat} (hL : L ≤ 384) (hi : i ≤ 1000) (h : ¬ i + 6 ≤ L) : nI L - nI 6 < nI i := by
  by_cases q : L < 6
  · exact Int32.lt_of_lt_of_le (L6 L q) ((nI_leI (by decide) (by omega)).mpr (Nat.zero_le _))
  · rw [pk_sub (by omega), nI_ltI (by omega) (by omega)]
    omega
set_option maxRecDepth 20000 in
theorem lw_loop (D : En) {post : Option Value → AH → Prop} {L : Nat} {xs : Nat → Int32} (hL : L ≤ 384) (hp : ∀ h', post (some (.int (nI 1))) h') : ∀ (n i : Nat) (h : AH) (s : SS), L ≤ i + 6 * n + 5 → i ≤ 400 → h[0]? = some (.inl (6, L, .inl xs)) → ClsS h s → RefS h s → INV s → Ev D 50 mL_law 18 [some (.ref 0), some (.ref 11), some (.ref 82), some (.int (nI i))] [] h (4 * n) (108 * n) post := by
  intro n
  induction n with
  | zero =>
    intro i h s hm hi4 hS hC hR hI
    refine e_iload_n dL_law_18 rfl ?_
    refine e_aload_n dL_law_19 rfl ?_
    refine e_alenX dL_law_20 hS (by decide) ?_
    refine e_top (nI L) rfl ?_
    refine e_bipush (nI 6) dL_law_21 (by decide) ?_
    refine e_isub dL_law_23 ?_
    refine e_icmp_gt 1709 dL_law_24 (by decide) (fun hc => ?_) (fun hc => absurd (lt6 hL (by omega) (by omega)) hc)
    refine e_iconst (nI 1) dL_law_1709 (by decide) ?_
    exact e_zret dL_law_1710 rfl (by decide) (hp _)
  | succ n ih =>
    intro i h s hm hi4 hS hC hR hI
    show Ev D 50 mL_law 18 [some (.ref 0), some (.ref 11), some (.ref 82), some (.int (nI i))] [] h (4 * n + 4) (108 * n + 108) post
    refine e_iload_n dL_law_18 rfl ?_
    refine e_aload_n dL_law_19 rfl ?_
    refine e_alenX dL_law_20 hS (by decide) ?_
    refine e_top (nI L) rfl ?_
    refine e_bipush (nI 6) dL_law_21 (by decide) ?_
    refine e_isub dL_law_23 ?_
    by_cases hi : i + 6 ≤ L
    · refine e_top (nI (L - 6)) (pk_sub (by omega)) ?_
      refine e_icmp_gtN 1709 dL_law_24 (by decide) (by omega) (by omega) (fun hc => absurd hc (by omega)) (fun hc => ?_)
      have kk : ∀ h' s', h'[0]? = some (.inl (6, L, .inl xs)) → ClsS h' s' → RefS h' s' → INV s' → Ev D 50 mL_law 1703 [some (.ref 0), some (.ref 11), some (.ref 82), some (.int (nI i))] [] h' (4 * n) (108 * n) post := by
        intro h' s' hS' hC' hR' hI'
        refine e_iincN (i + 6) dL_law_1703 rfl (by decide) (nI_add _ _) ?_
        refine e_goto 18 dL_law_1706 (by decide) ?_
        exact ih (i + 6) h' s' (by omega) (by omega) hS' hC' hR' hI'
      refine e_aload_n dL_law_27 rfl ?_
      refine e_iload_n dL_law_28 rfl ?_
      refine e_ildX i (xs i) dL_law_29 hS (by decide) rfl (by omega) (by omega) rfl ?_
      refine e_bipush (nI 63) dL_law_30 (by decide) ?_
      refine e_iand dL_law_32 ?_
      obtain ⟨k, hk, ek⟩ := and63 (xs i)
      refine e_top (nI k) ek ?_
      clear ek
      by_cases h45 : k < 45
      · rcases (show k = 0 ∨ k = 1 ∨ k = 2 ∨ k = 3 ∨ k = 4 ∨ k = 5 ∨ k = 6 ∨ k = 7 ∨ k = 8 ∨ k = 9 ∨ k = 10 ∨ k = 11 ∨ k = 12 ∨ k = 13 ∨ k = 14 ∨ k = 15 ∨ k = 16 ∨ k = 17 ∨ k = 18 ∨ k = 19 ∨ k = 20 ∨ k = 21 ∨ k = 22 ∨ k = 23 ∨ k = 24 ∨ k = 25 ∨ k = 26 ∨ k = 27 ∨ k = 28 ∨ k = 29 ∨ k = 30 ∨ k = 31 ∨ k = 32 ∨ k = 33 ∨ k = 34 ∨ k = 35 ∨ k = 36 ∨ k = 37 ∨ k = 38 ∨ k = 39 ∨ k = 40 ∨ k = 41 ∨ k = 42 ∨ k = 43 ∨ k = 44 by omega) with rfl | rfl | rfl | rfl | rfl | rfl | rfl | rfl | rfl | rfl | rfl | rfl | rfl | rfl | rfl | rfl | rfl | rfl | rfl | rfl | rfl | rfl | rfl | rfl | rfl | rfl | rfl | rfl | rfl | rfl | rfl | rfl | rfl | rfl | rfl | rfl | rfl | rfl | rfl | rfl | rfl | rfl | rfl | rfl | rfl
        · refine e_tableIn (off := 195) 228 dL_law_33 (by decide) (by decide) (by decide) (by decide) ?_
          exact lc_0 D hi hL hS hC hR hI kk
        · refine e_tableIn (off := 248) 281 dL_law_33 (by decide) (by decide) (by decide) (by decide) ?_
          exact lc_1 D hi hL hS hC hR hI kk
        · refine e_tableIn (off := 281) 314 dL_law_33 (by decide) (by decide) (by decide) (by decide) ?_
          exact lc_2 D hi hL hS hC hR hI kk
        · refine e_tableIn (off := 324) 357 dL_law_33 (by decide) (by decide) (by decide) (by decide) ?_
          exact lc_3 D hi hL hS hC hR hI kk
        · refine e_tableIn (off := 347) 380 dL_law_33 (by decide) (by decide) (by decide) (by decide) ?_
          exact lc_4 D hi hL hS hC hR hI kk
        · refine e_tableIn (off := 370) 403 dL_law_33 (by decide) (by decide) (by decide) (by decide) ?_
          exact lc_5 D hi hL hS hC hR hI kk
        · refine e_tableIn (off := 393) 426 dL_law_33 (by decide) (by decide) (by decide) (by decide) ?_
          exact lc_6 D hi hL hS hC hR hI kk
        · refine e_tableIn (off := 426) 459 dL_law_33 (by decide) (by decide) (by decide) (by decide) ?_
          exact lc_7 D hi hL hS hC hR hI kk
        · refine e_tableIn (off := 469) 502 dL_law_33 (by decide) (by decide) (by decide) (by decide) ?_
          exact lc_8 D hi hL hS hC hR hI kk
        · refine e_tableIn (off := 522) 555 dL_law_33 (by decide) (by decide) (by decide) (by decide) ?_
          exact lc_9 D hi hL hS hC hR hI kk
        · refine e_tableIn (off := 555) 588 dL_law_33 (by decide) (by decide) (by decide) (by decide) ?_
          exact lc_10 D hi hL hS hC hR hI kk
        · refine e_tableIn (off := 588) 621 dL_law_33 (by decide) (by decide) (by decide) (by decide) ?_
          exact lc_11 D hi hL hS hC hR hI kk
        · refine e_tableIn (off := 621) 654 dL_law_33 (by decide) (by decide) (by decide) (by decide) ?_
          exact lc_12 D hi hL hS hC hR hI kk
        · refine e_tableIn (off := 654) 687 dL_law_33 (by decide) (by decide) (by decide) (by decide) ?_
          exact lc_13 D hi hL hS hC hR hI kk
        · refine e_tableIn (off := 677) 710 dL_law_33 (by decide) (by decide) (by decide) (by decide) ?_
          exact lc_14 D hi hL hS hC hR hI kk
        · refine e_tableIn (off := 690) 723 dL_law_33 (by decide) (by decide) (by decide) (by decide) ?_
          exact lc_15 D hi hL hS hC hR hI kk
        · refine e_tableIn (off := 753) 786 dL_law_33 (by decide) (by decide) (by decide) (by decide) ?_
          exact lc_16 D hi hL hS hC hR hI kk
        · refine e_tableIn (off := 776) 809 dL_law_33 (by decide) (by decide) (by decide) (by decide) ?_
          exact lc_17 D hi hL hS hC hR hI kk
        · refine e_tableIn (off := 829) 862 dL_law_33 (by decide) (by decide) (by decide) (by decide) ?_
          exact lc_18 D hi hL hS hC hR hI kk
        · refine e_tableIn (off := 862) 895 dL_law_33 (by decide) (by decide) (by decide) (by decide) ?_
          exact lc_19 D hi hL hS hC hR hI kk
        · refine e_tableIn (off := 885) 918 dL_law_33 (by decide) (by decide) (by decide) (by decide) ?_
          exact lc_20 D hi hL hS hC hR hI kk
        · refine e_tableIn (off := 918) 951 dL_law_33 (by decide) (by decide) (by decide) (by decide) ?_
          exact lc_21 D hi hL hS hC hR hI kk
        · refine e_tableIn (off := 961) 994 dL_law_33 (by decide) (by decide) (by decide) (by decide) ?_
          exact lc_22 D hi hL hS hC hR hI kk
        · refine e_tableIn (off := 994) 1027 dL_law_33 (by decide) (by decide) (by decide) (by decide) ?_
          exact lc_23 D hi hL hS hC hR hI kk
        · refine e_tableIn (off := 1017) 1050 dL_law_33 (by decide) (by decide) (by decide) (by decide) ?_
          exact lc_24 D hi hL hS hC hR hI kk
        · refine e_tableIn (off := 1040) 1073 dL_law_33 (by decide) (by decide) (by decide) (by decide) ?_
          exact lc_25 D hi hL hS hC hR hI kk
        · refine e_tableIn (off := 1083) 1116 dL_law_33 (by decide) (by decide) (by decide) (by decide) ?_
          exact lc_26 D hi hL hS hC hR hI kk
        · refine e_tableIn (off := 1116) 1149 dL_law_33 (by decide) (by decide) (by decide) (by decide) ?_
          exact lc_27 D hi hL hS hC hR hI kk
        · refine e_tableIn (off := 1149) 1182 dL_law_33 (by decide) (by decide) (by decide) (by decide) ?_
          exact lc_28 D hi hL hS hC hR hI kk
        · refine e_tableIn (off := 1192) 1225 dL_law_33 (by decide) (by decide) (by decide) (by decide) ?_
          exact lc_29 D hi hL hS hC hR hI kk
        · refine e_tableIn (off := 1225) 1258 dL_law_33 (by decide) (by decide) (by decide) (by decide) ?_
          exact lc_30 D hi hL hS hC hR hI kk
        · refine e_tableIn (off := 1258) 1291 dL_law_33 (by decide) (by decide) (by decide) (by decide) ?_
          exact lc_31 D hi hL hS hC hR hI kk
        · refine e_tableIn (off := 1291) 1324 dL_law_33 (by decide) (by decide) (by decide) (by decide) ?_
          exact lc_32 D hi hL hS hC hR hI kk
        · refine e_tableIn (off := 1314) 1347 dL_law_33 (by decide) (by decide) (by decide) (by decide) ?_
          exact lc_33 D hi hL hS hC hR hI kk
        · refine e_tableIn (off := 1337) 1370 dL_law_33 (by decide) (by decide) (by decide) (by decide) ?_
          exact lc_34 D hi hL hS hC hR hI kk
        · refine e_tableIn (off := 1380) 1413 dL_law_33 (by decide) (by decide) (by decide) (by decide) ?_
          exact lc_35 D hi hL hS hC hR hI kk
        · refine e_tableIn (off := 1403) 1436 dL_law_33 (by decide) (by decide) (by decide) (by decide) ?_
          exact lc_36 D hi hL hS hC hR hI kk
        · refine e_tableIn (off := 1446) 1479 dL_law_33 (by decide) (by decide) (by decide) (by decide) ?_
          exact lc_37 D hi hL hS hC hR hI kk
        · refine e_tableIn (off := 1489) 1522 dL_law_33 (by decide) (by decide) (by decide) (by decide) ?_
          exact lc_38 D hi hL hS hC hR hI kk
        · refine e_tableIn (off := 1552) 1585 dL_law_33 (by decide) (by decide) (by decide) (by decide) ?_
          exact lc_39 D hi hL hS hC hR hI kk
        · refine e_tableIn (off := 1565) 1598 dL_law_33 (by decide) (by decide) (by decide) (by decide) ?_
          exact lc_40 D hi hL hS hC hR hI kk
        · refine e_tableIn (off := 1578) 1611 dL_law_33 (by decide) (by decide) (by decide) (by decide) ?_
          exact lc_41 D hi hL hS hC hR hI kk
        · refine e_tableIn (off := 1601) 1634 dL_law_33 (by decide) (by decide) (by decide) (by decide) ?_
          exact lc_42 D hi hL hS hC hR hI kk
        · refine e_tableIn (off := 1624) 1657 dL_law_33 (by decide) (by decide) (by decide) (by decide) ?_
          exact lc_43 D hi hL hS hC hR hI kk
        · refine e_tableIn (off := 1647) 1680 dL_law_33 (by decide) (by decide) (by decide) (by decide) ?_
          exact lc_44 D hi hL hS hC hR hI kk
      · refine e_tableOut 1703 dL_law_33 (Or.inr (by rw [nI_toInt (by omega)]; omega)) (by decide) ?_
        exact (kk h s hS hC hR hI).more (by omega) (by omega)
    · refine e_icmp_gt 1709 dL_law_24 (by decide) (fun hc => ?_) (fun hc => absurd (lt6 hL (by omega) hi) hc)
      refine e_iconst (nI 1) dL_law_1709 (by decide) ?_
      exact e_zret dL_law_1710 rfl (by decide) (hp _)
