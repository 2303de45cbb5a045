/-- nothing has changed but a Row -/
def FO (a : Nat) (h h' : AH) : Prop := h'.length = h.length ∧ ∀ x, x ≠ a → x ≠ a + 1 → h'[x]? = h[x]?
theorem FO.rf {a : Nat} {h : AH} : FO a h h := ⟨rfl, fun _ _ _ => rfl⟩
theorem FO.trans {a : Nat} {h h1 h2 : AH} (f : FO a h h1) (g : FO a h1 h2) : FO a h h2 := ⟨g.1.trans f.1, fun x p q => (g.2 x p q).trans (f.2 x p q)⟩
theorem FO.set {a : Nat} {h h1 : AH} (f : FO a h h1) {j : Nat} {c : AC} (hj : j = a ∨ j = a + 1) : FO a h (h1.set j c) := ⟨by rw [List.length_set]; exact f.1, fun x p q => by rw [List.getElem?_set_ne (by omega)]; exact f.2 x p q⟩
theorem RW.cn {h : AH} {o n : Nat} {f : Nat → Int32} {z b : Int32} (hr : RW h o n f z b) : CN h o RX5 := Or.inl ⟨5, _, _, hr.1, rfl, rfl⟩
set_option maxRecDepth 20000 in
theorem k_radd (D : En) {h : AH} {o n z : Nat} {f : Nat → Int32} {b : Int32} (hr : RW h o n f (nI z) b) (hn : n ≤ 1000) (hz : z < n) (v : Int32) : Sp D 0 mX5_add [.ref o, .int v] h 0 0 none (fun h' => RW h' o n (upd f z v) (nI (z + 1)) b ∧ FO o h h') := by
  intro post hp
  show Ev D 0 mX5_add 0 [some (.ref o), some (.int v)] [] h 0 0 post
  refine e_aload_n dX5_add_0 rfl ?_
  refine e_get dX5_add_1 fl_X5_7_5 hr.1 rfl ?_
  refine e_aload_n dX5_add_4 rfl ?_
  refine e_get dX5_add_5 fl_X5_22_5 hr.1 rfl ?_
  refine e_alen dX5_add_8 hr.2 ?_
  refine e_top (nI n) rfl ?_
  refine e_icmp_geN 32 dX5_add_9 (by decide) (by omega) (by omega) (fun hc => absurd hc (by omega)) (fun hc => ?_)
  refine e_aload_n dX5_add_12 rfl ?_
  refine e_get dX5_add_13 fl_X5_22_5 hr.1 rfl ?_
  refine e_aload_n dX5_add_16 rfl ?_
  refine e_get dX5_add_17 fl_X5_7_5 hr.1 rfl ?_
  refine e_iload_n dX5_add_20 rfl ?_
  refine e_ist z dX5_add_21 hr.2 rfl hz (by omega) ?_
  have h1 := getset (b := o + 1) (c := .inl (0, n, .inl (upd f z v))) hr.1 (by omega)
  refine e_aload_n dX5_add_22 rfl ?_
  refine e_dup dX5_add_23 rfl ?_
  refine e_get dX5_add_24 fl_X5_7_5 h1 rfl ?_
  refine e_iconst (nI 1) dX5_add_27 (by decide) ?_
  refine e_iaddN dX5_add_28 ?_
  refine e_put dX5_add_29 fl_X5_7_5 ft_5 (fun q hq => Or.inl (by cases hq; rfl)) h1 (by show _ < 3; decide) rfl rfl ?_
  exact e_vret dX5_add_32 rfl (hp _ ⟨⟨getself h1, getset (getself hr.2) (by omega)⟩, (FO.rf.set (Or.inr rfl)).set (Or.inl rfl)⟩)
set_option maxRecDepth 20000 in
theorem k_raddF (D : En) {h : AH} {o n : Nat} {f : Nat → Int32} {b : Int32} (hr : RW h o n f (nI n) b) (hn : n ≤ 1000) (v : Int32) : Sp D 0 mX5_add [.ref o, .int v] h 0 0 none (fun h' => h' = h) := by
  intro post hp
  show Ev D 0 mX5_add 0 [some (.ref o), some (.int v)] [] h 0 0 post
  refine e_aload_n dX5_add_0 rfl ?_
  refine e_get dX5_add_1 fl_X5_7_5 hr.1 rfl ?_
  refine e_aload_n dX5_add_4 rfl ?_
  refine e_get dX5_add_5 fl_X5_22_5 hr.1 rfl ?_
  refine e_alen dX5_add_8 hr.2 ?_
  refine e_top (nI n) rfl ?_
  refine e_icmp_geN 32 dX5_add_9 (by decide) (by omega) (by omega) (fun hc => ?_) (fun hc => absurd hc (by omega))
  exact e_vret dX5_add_32 rfl (hp _ rfl)
/-- the trace as the class keeps it -/
def TR (h : AH) (t : TS) : Prop := ∃ f b, RW h 71 40 f (nI t.2) b ∧ t.2 ≤ 40 ∧ ∀ i, i < t.2 → f i = t.1 i
theorem k_tadd (D : En) {h : AH} {t : TS} (hT : TR h t) (v : Int32) : Sp D 0 mX5_add [.ref 71, .int v] h 0 0 none (fun h' => TR h' (bgV v t) ∧ FO 71 h h') := by
  obtain ⟨f, b, r, hle, e⟩ := hT
  by_cases q : t.2 < 40
  · refine (k_radd D r (by decide) q v).weak (fun h' hP => ⟨?_, hP.2⟩)
    unfold bgV
    rw [if_pos q]
    refine ⟨_, b, hP.1, q, fun i hi => ?_⟩
    by_cases z : i = t.2
    · subst z; rw [pk_us]; exact pk_us.symm
    · rw [pk_un (by omega), e i (by have : i < t.2 + 1 := hi; omega)]; exact (pk_un (by omega)).symm
  · have e40 : t.2 = 40 := by omega
    rw [e40] at r
    refine (k_raddF D r (by decide) v).weak (fun h' hP => ?_)
    subst hP
    unfold bgV
    rw [if_neg q]
    exact ⟨⟨f, b, by rw [e40]; exact r, hle, e⟩, FO.rf⟩
theorem has_eq {i : Int32} {z : Nat} (hz : z ≤ 1000) : (nI 0 ≤ i ∧ i ≤ nI z - nI 1) ↔ (¬ i < 0 ∧ ¬ nI z ≤ i) := by
  constructor
  · intro q
    obtain ⟨e, l⟩ := isN (y := nI z) q rfl hz
    refine ⟨Int32.not_lt.mpr q.1, fun w => ?_⟩
    rw [e, nI_leI (by omega) (by omega)] at w
    omega
  · rintro ⟨a, b⟩
    have ha : (0 : Int32) ≤ i := Int32.not_lt.mp a
    have e1 : i = nI (tn i) := by
      unfold nI tn
      rw [Int32.ofNat_toNatClampNeg _ ha]
    have hx : tn i < 2 ^ 31 := by
      have h3 := i.toInt_lt
      unfold tn
      show i.toInt.toNat < _
      omega
    rw [e1, nI_leI (by omega) hx] at b
    refine ⟨ha, ?_⟩
    rw [e1, pk_sub (by omega), nI_leI hx (by omega)]
    omega
set_option maxRecDepth 20000 in
theorem k_rhas (D : En) {h : AH} {o n z : Nat} {f : Nat → Int32} {b : Int32} (hr : RW h o n f (nI z) b) (hz : z ≤ 1000) (i : Int32) : Sp D 0 mX5_has [.ref (o), .int (i)] h 0 0 (some (.int (b2 (nI 0 ≤ i ∧ i ≤ nI z - nI 1)))) (fun h' => h' = h) := by
  intro post hp
  show Ev D 0 mX5_has 0 [some (.ref (o)), some (.int (i))] [] h 0 0 post
  refine e_iload_n dX5_has_0 rfl ?_
  refine e_if_lt 16 dX5_has_1 (by decide) (fun hcq1 => ?_) (fun hcq1 => ?_)
  · refine e_iconst (nI (0)) dX5_has_16 (by decide) ?_
    first | exact e_top _ (b2_t ((has_eq hz).mpr ⟨hcq1, hcq9⟩)).symm (e_zretB dX5_has_17 rfl (hp _ rfl)) | exact e_top _ (b2_f (fun q => by first | exact ((has_eq hz).mp q).1 hcq1 | exact ((has_eq hz).mp q).2 hcq9)).symm (e_zretB dX5_has_17 rfl (hp _ rfl))
  · refine e_iload_n dX5_has_4 rfl ?_
    refine e_aload_n dX5_has_5 rfl ?_
    refine e_get dX5_has_6 fl_X5_7_5 hr.1 rfl ?_
    refine e_icmp_ge 16 dX5_has_9 (by decide) (fun hcq9 => ?_) (fun hcq9 => ?_)
    · refine e_iconst (nI (0)) dX5_has_16 (by decide) ?_
      first | exact e_top _ (b2_t ((has_eq hz).mpr ⟨hcq1, hcq9⟩)).symm (e_zretB dX5_has_17 rfl (hp _ rfl)) | exact e_top _ (b2_f (fun q => by first | exact ((has_eq hz).mp q).1 hcq1 | exact ((has_eq hz).mp q).2 hcq9)).symm (e_zretB dX5_has_17 rfl (hp _ rfl))
    · refine e_iconst (nI (1)) dX5_has_12 (by decide) ?_
      refine e_goto 17 dX5_has_13 (by decide) ?_
      first | exact e_top _ (b2_t ((has_eq hz).mpr ⟨hcq1, hcq9⟩)).symm (e_zretB dX5_has_17 rfl (hp _ rfl)) | exact e_top _ (b2_f (fun q => by first | exact ((has_eq hz).mp q).1 hcq1 | exact ((has_eq hz).mp q).2 hcq9)).symm (e_zretB dX5_has_17 rfl (hp _ rfl))
theorem run_eq {i n : Int32} {z : Nat} (hz : z ≤ 1000) (hi : ¬ i < 0) (hn : ¬ n < 0) : (¬ nI z < n ∧ ¬ nI z - n < i) ↔ tn i + tn n ≤ z := by
  have key : ∀ x : Int32, ¬ x < 0 → x = nI (tn x) ∧ tn x < 2 ^ 31 := by
    intro x q
    refine ⟨?_, ?_⟩
    · unfold nI tn
      rw [Int32.ofNat_toNatClampNeg _ (Int32.not_lt.mp q)]
    · have h3 := x.toInt_lt
      unfold tn
      show x.toInt.toNat < _
      omega
  obtain ⟨e1, l1⟩ := key i hi
  obtain ⟨e2, l2⟩ := key n hn
  rw [Int32.not_lt, Int32.not_lt]
  constructor
  · rintro ⟨a, b⟩
    rw [e2, nI_leI l2 (by omega)] at a
    rw [e1, e2, pk_sub a, nI_leI l1 (by omega)] at b
    omega
  · intro q
    have a : tn n ≤ z := by omega
    rw [e1, e2, pk_sub a, nI_leI l1 (by omega), nI_leI l2 (by omega)]
    omega
set_option maxRecDepth 20000 in
theorem k_rrun (D : En) {h : AH} {o n z : Nat} {f : Nat → Int32} {b : Int32} (hr : RW h o n f (nI z) b) (hz : z ≤ 1000) (i k : Int32) : Sp D 0 mX5_hasRun [.ref (o), .int (i), .int (k)] h 0 0 (some (.int (b2 (¬ i < 0 ∧ ¬ k < 0 ∧ tn i + tn k ≤ z)))) (fun h' => h' = h) := by
  intro post hp
  show Ev D 0 mX5_hasRun 0 [some (.ref (o)), some (.int (i)), some (.int (k))] [] h 0 0 post
  refine e_iload_n dX5_hasRun_0 rfl ?_
  refine e_if_lt 30 dX5_hasRun_1 (by decide) (fun hcq1 => ?_) (fun hcq1 => ?_)
  · refine e_iconst (nI (0)) dX5_hasRun_30 (by decide) ?_
    first | exact e_top _ (b2_t ⟨hcq1, hcq5, (run_eq hz hcq1 hcq5).mp ⟨hcq13, hcq23⟩⟩).symm (e_zretB dX5_hasRun_31 rfl (hp _ rfl)) | exact e_top _ (b2_f (fun q => by first | exact q.1 hcq1 | exact q.2.1 hcq5 | exact ((run_eq hz hcq1 hcq5).mpr q.2.2).1 hcq13 | exact ((run_eq hz hcq1 hcq5).mpr q.2.2).2 hcq23)).symm (e_zretB dX5_hasRun_31 rfl (hp _ rfl))
  · refine e_iload_n dX5_hasRun_4 rfl ?_
    refine e_if_lt 30 dX5_hasRun_5 (by decide) (fun hcq5 => ?_) (fun hcq5 => ?_)
    · refine e_iconst (nI (0)) dX5_hasRun_30 (by decide) ?_
      first | exact e_top _ (b2_t ⟨hcq1, hcq5, (run_eq hz hcq1 hcq5).mp ⟨hcq13, hcq23⟩⟩).symm (e_zretB dX5_hasRun_31 rfl (hp _ rfl)) | exact e_top _ (b2_f (fun q => by first | exact q.1 hcq1 | exact q.2.1 hcq5 | exact ((run_eq hz hcq1 hcq5).mpr q.2.2).1 hcq13 | exact ((run_eq hz hcq1 hcq5).mpr q.2.2).2 hcq23)).symm (e_zretB dX5_hasRun_31 rfl (hp _ rfl))
    · refine e_iload_n dX5_hasRun_8 rfl ?_
      refine e_aload_n dX5_hasRun_9 rfl ?_
      refine e_get dX5_hasRun_10 fl_X5_7_5 hr.1 rfl ?_
      refine e_icmp_gt 30 dX5_hasRun_13 (by decide) (fun hcq13 => ?_) (fun hcq13 => ?_)
      · refine e_iconst (nI (0)) dX5_hasRun_30 (by decide) ?_
        first | exact e_top _ (b2_t ⟨hcq1, hcq5, (run_eq hz hcq1 hcq5).mp ⟨hcq13, hcq23⟩⟩).symm (e_zretB dX5_hasRun_31 rfl (hp _ rfl)) | exact e_top _ (b2_f (fun q => by first | exact q.1 hcq1 | exact q.2.1 hcq5 | exact ((run_eq hz hcq1 hcq5).mpr q.2.2).1 hcq13 | exact ((run_eq hz hcq1 hcq5).mpr q.2.2).2 hcq23)).symm (e_zretB dX5_hasRun_31 rfl (hp _ rfl))
      · refine e_iload_n dX5_hasRun_16 rfl ?_
        refine e_aload_n dX5_hasRun_17 rfl ?_
        refine e_get dX5_hasRun_18 fl_X5_7_5 hr.1 rfl ?_
        refine e_iload_n dX5_hasRun_21 rfl ?_
        refine e_isub dX5_hasRun_22 ?_
        refine e_icmp_gt 30 dX5_hasRun_23 (by decide) (fun hcq23 => ?_) (fun hcq23 => ?_)
        · refine e_iconst (nI (0)) dX5_hasRun_30 (by decide) ?_
          first | exact e_top _ (b2_t ⟨hcq1, hcq5, (run_eq hz hcq1 hcq5).mp ⟨hcq13, hcq23⟩⟩).symm (e_zretB dX5_hasRun_31 rfl (hp _ rfl)) | exact e_top _ (b2_f (fun q => by first | exact q.1 hcq1 | exact q.2.1 hcq5 | exact ((run_eq hz hcq1 hcq5).mpr q.2.2).1 hcq13 | exact ((run_eq hz hcq1 hcq5).mpr q.2.2).2 hcq23)).symm (e_zretB dX5_hasRun_31 rfl (hp _ rfl))
        · refine e_iconst (nI (1)) dX5_hasRun_26 (by decide) ?_
          refine e_goto 31 dX5_hasRun_27 (by decide) ?_
          first | exact e_top _ (b2_t ⟨hcq1, hcq5, (run_eq hz hcq1 hcq5).mp ⟨hcq13, hcq23⟩⟩).symm (e_zretB dX5_hasRun_31 rfl (hp _ rfl)) | exact e_top _ (b2_f (fun q => by first | exact q.1 hcq1 | exact q.2.1 hcq5 | exact ((run_eq hz hcq1 hcq5).mpr q.2.2).1 hcq13 | exact ((run_eq hz hcq1 hcq5).mpr q.2.2).2 hcq23)).symm (e_zretB dX5_hasRun_31 rfl (hp _ rfl))
set_option maxRecDepth 20000 in
theorem k_rnar (D : En) {h : AH} {o n : Nat} {f : Nat → Int32} {z b : Int32} (hr : RW h o n f z b) (x : Int32) : Sp D 0 mX5_narrowed [.ref o, .int x] h 0 0 (some (.int (narW b x))) (fun h' => h' = h) := by
  intro post hp
  show Ev D 0 mX5_narrowed 0 [some (.ref o), some (.int x)] [] h 0 0 post
  refine e_aload_n dX5_narrowed_0 rfl ?_
  refine e_get dX5_narrowed_1 fl_X5_13_5 hr.1 rfl ?_
  by_cases q8 : b = nI 8
  · have e9 : narW b x = x.toInt8.toInt32 := by unfold narW; rw [if_pos q8]
    rw [e9] at hp
    refine e_top (nI 8) q8 ?_
    refine e_lookup (off := 28) 32 dX5_narrowed_4 (by decide) (by decide) (by decide) ?_
    refine e_iload_n dX5_narrowed_32 rfl ?_
    refine e_i2b dX5_narrowed_33 ?_
    exact e_iret dX5_narrowed_34 rfl (hp _ rfl)
  · by_cases q16 : b = nI 16
    · have e9 : narW b x = x.toInt16.toInt32 := by unfold narW; rw [if_neg q8, if_pos q16]
      rw [e9] at hp
      refine e_top (nI 16) q16 ?_
      refine e_lookup (off := 31) 35 dX5_narrowed_4 (by decide) (by decide) (by decide) ?_
      refine e_iload_n dX5_narrowed_35 rfl ?_
      refine e_i2s dX5_narrowed_36 ?_
      exact e_iret dX5_narrowed_37 rfl (hp _ rfl)
    · have e9 : narW b x = x := by unfold narW; rw [if_neg q8, if_neg q16]
      rw [e9] at hp
      refine e_lookup (off := 34) 38 dX5_narrowed_4 (by decide) ((lv_osw (k := nI 8) q8 (by decide)).trans ((lv_osw (k := nI 16) q16 (by decide)).trans rfl)) (by decide) ?_
      refine e_iload_n dX5_narrowed_38 rfl ?_
      exact e_iret dX5_narrowed_39 rfl (hp _ rfl)
set_option maxRecDepth 20000 in
theorem kl_shape (D : En) {h : AH} {o : Nat} {b2_ z2 : Int32} {z b : Int32} (h1 : h[o]? = some (.inr (5, [.ref (o + 1), .int z, .int b]))) {h0 : AH} {post : Option Value → AH → Prop} (hp : ∀ h', (∃ g, RW h' o 40 g z b ∧ (∀ i, i < 40 → g i = nI 0) ∧ FO o h0 h') → post none h') : ∀ (j i : Nat) (h : AH) (g : Nat → Int32), i + j = 40 → RW h o 40 g z b → (∀ k, k < i → g k = nI 0) → FO o h0 h → Ev D 1 mX5_shape 24 [some (.ref o), some (.int b2_), some (.int z2), some (.int (nI i))] [] h 0 0 post := by
  intro j
  induction j with
  | zero =>
    intro i h g hm hr hz hF
    refine e_iload_n dX5_shape_24 rfl ?_
    refine e_aload_n dX5_shape_25 rfl ?_
    refine e_get dX5_shape_26 fl_X5_22_5 hr.1 rfl ?_
    refine e_alen dX5_shape_29 hr.2 ?_
    refine e_top (nI 40) rfl ?_
    refine e_icmp_geN 46 dX5_shape_30 (by decide) (by omega) (by omega) (fun hc => ?_) (fun hc => absurd hc (by omega))
    exact e_vret dX5_shape_46 rfl (hp _ ⟨g, hr, fun k hk => hz k (by omega), hF⟩)
  | succ j ih =>
    intro i h g hm hr hz hF
    refine e_iload_n dX5_shape_24 rfl ?_
    refine e_aload_n dX5_shape_25 rfl ?_
    refine e_get dX5_shape_26 fl_X5_22_5 hr.1 rfl ?_
    refine e_alen dX5_shape_29 hr.2 ?_
    refine e_top (nI 40) rfl ?_
    refine e_icmp_geN 46 dX5_shape_30 (by decide) (by omega) (by omega) (fun hc => absurd hc (by omega)) (fun hc => ?_)
    refine e_aload_n dX5_shape_33 rfl ?_
    refine e_get dX5_shape_34 fl_X5_22_5 hr.1 rfl ?_
    refine e_iload_n dX5_shape_37 rfl ?_
    refine e_iconst (nI 0) dX5_shape_38 (by decide) ?_
    refine e_ist i dX5_shape_39 hr.2 rfl (by omega) (by decide) ?_
    refine e_iincN (i + 1) dX5_shape_40 rfl (by decide) (nI_add _ _) ?_
    refine e_goto 24 dX5_shape_43 (by decide) ?_
    refine ih (i + 1) _ (upd g i (nI 0)) (by omega) ⟨getset hr.1 (by omega), getself hr.2⟩ (fun k hk => ?_) (hF.set (Or.inr rfl))
    by_cases e : k = i
    · rw [e, pk_us]
    · rw [pk_un (by omega)]; exact hz k (by omega)
theorem k_rshape (D : En) {h : AH} {o : Nat} {f : Nat → Int32} {z b : Int32} (hr : RW h o 40 f z b) (b' : Int32) (n : Int32) (hn : nI 0 ≤ n ∧ n ≤ nI 40) : Sp D 1 mX5_shape [.ref o, .int b', .int n] h 0 0 none (fun h' => ∃ g, RW h' o 40 g n b' ∧ (∀ i, i < 40 → g i = nI 0) ∧ FO o h h') := by
  intro post hp
  show Ev D 1 mX5_shape 0 [some (.ref o), some (.int b'), some (.int n), none] [] h 0 0 post
  refine e_aload_n dX5_shape_0 rfl ?_
  refine e_iload_n dX5_shape_1 rfl ?_
  refine e_put dX5_shape_2 fl_X5_13_5 ft_5 (fun q hq => Or.inl (by cases hq; rfl)) hr.1 (by show _ < 3; decide) rfl rfl ?_
  have h1 := getself (c := .inr (5, [.ref (o + 1), .int z, .int b'])) hr.1
  have h2 := getset (b := o) (c := .inr (5, [.ref (o + 1), .int z, .int b'])) hr.2 (by omega)
  change Ev D 1 mX5_shape 5 [some (.ref o), some (.int b'), some (.int n), none] [] (h.set o (.inr (5, [.ref (o + 1), .int z, .int b']))) 0 0 post
  obtain ⟨h5, hh5⟩ : ∃ z9, z9 = h.set o (.inr (5, [.ref (o + 1), .int z, .int b'])) := ⟨_, rfl⟩
  have hF : FO o h h5 := by rw [hh5]; exact FO.rf.set (Or.inl rfl)
  rw [← hh5] at h1
  rw [← hh5] at h2
  rw [← hh5]
  refine e_aload_n dX5_shape_5 rfl ?_
  refine e_iconst (nI 0) dX5_shape_6 (by decide) ?_
  refine e_iload_n dX5_shape_7 rfl ?_
  refine e_aload_n dX5_shape_8 rfl ?_
  refine e_get dX5_shape_9 fl_X5_22_5 h1 rfl ?_
  refine e_alen dX5_shape_12 h2 ?_
  refine e_mmin dX5_shape_13 mw_X5_26 (by decide) (Nat.le_of_ble_eq_true rfl) ?_
  refine e_top n (by show (if nI 40 < n then nI 40 else n) = n; rw [if_neg (Int32.not_lt.mpr hn.2)]) ?_
  refine e_mmax dX5_shape_16 mw_X5_16 (by decide) (Nat.le_of_ble_eq_true rfl) ?_
  refine e_top n (by
    by_cases q : nI 0 < n
    · rw [if_pos q]
    · rw [if_neg q]; exact Int32.le_antisymm hn.1 (Int32.not_lt.mp q)) ?_
  refine e_put dX5_shape_19 fl_X5_7_5 ft_5 (fun q hq => Or.inl (by cases hq; rfl)) h1 (by show _ < 3; decide) rfl rfl ?_
  refine e_iconst (nI 0) dX5_shape_22 (by decide) ?_
  refine e_istore_n dX5_shape_23 (by decide) ?_
  exact kl_shape D (getself h1) (h0 := h) hp 40 0 _ f (by decide) ⟨getself h1, getset h2 (by omega)⟩ (fun k hk => by omega) (hF.set (Or.inl rfl))
theorem k_rcopy (D : En) {h : AH} {a b n z : Nat} {f g : Nat → Int32} {y p q : Int32} (ha : RW h a n g y p) (hb : RW h b n f (nI z) q) (hz : z ≤ n) (hn : n ≤ 1000) (hab : a + 1 < b ∨ b + 1 < a) : Sp D 1 mX5_copyFrom [.ref a, .ref b] h 0 0 none (fun h' => ∃ g', RW h' a n g' (nI z) p ∧ (∀ i, i < z → g' i = f i) ∧ FO a h h') := by
  intro post hp
  show Ev D 1 mX5_copyFrom 0 [some (.ref a), some (.ref b)] [] h 0 0 post
  refine e_aload_n dX5_copyFrom_0 rfl ?_
  refine e_aload_n dX5_copyFrom_1 rfl ?_
  refine e_get dX5_copyFrom_2 fl_X5_7_5 hb.1 rfl ?_
  refine e_aload_n dX5_copyFrom_5 rfl ?_
  refine e_get dX5_copyFrom_6 fl_X5_22_5 ha.1 rfl ?_
  refine e_alen dX5_copyFrom_9 ha.2 ?_
  refine e_mmin dX5_copyFrom_10 mw_X5_26 (by decide) (Nat.le_of_ble_eq_true rfl) ?_
  refine e_top (nI z) (by show (if nI n < nI z then nI n else nI z) = nI z; rw [if_neg (Int32.not_lt.mpr ((nI_leI (by omega) (by omega)).mpr hz))]) ?_
  refine e_put dX5_copyFrom_13 fl_X5_7_5 ft_5 (fun q hq => Or.inl (by cases hq; rfl)) ha.1 (by show _ < 3; decide) rfl rfl ?_
  have a1 := getself (c := .inr (5, [.ref (a + 1), .int (nI z), .int p])) ha.1
  have a2 := getset (b := a) (c := .inr (5, [.ref (a + 1), .int (nI z), .int p])) ha.2 (by omega)
  have b1 := getset (b := a) (c := .inr (5, [.ref (a + 1), .int (nI z), .int p])) hb.1 (by omega)
  have b2 := getset (b := a) (c := .inr (5, [.ref (a + 1), .int (nI z), .int p])) hb.2 (by omega)
  change Ev D 1 mX5_copyFrom 16 [some (.ref a), some (.ref b)] [] (h.set a (.inr (5, [.ref (a + 1), .int (nI z), .int p]))) 0 0 post
  refine e_aload_n dX5_copyFrom_16 rfl ?_
  refine e_get dX5_copyFrom_17 fl_X5_22_5 b1 rfl ?_
  refine e_iconst (nI 0) dX5_copyFrom_20 (by decide) ?_
  refine e_aload_n dX5_copyFrom_21 rfl ?_
  refine e_get dX5_copyFrom_22 fl_X5_22_5 a1 rfl ?_
  refine e_iconst (nI 0) dX5_copyFrom_25 (by decide) ?_
  refine e_aload_n dX5_copyFrom_26 rfl ?_
  refine e_get dX5_copyFrom_27 fl_X5_7_5 a1 rfl ?_
  have z0 : (nI 0).toNatClampNeg = 0 := by decide
  have zz : (nI z).toNatClampNeg = z := nI_clamp (by omega)
  refine e_copyi dX5_copyFrom_30 cy_X5_29 (by decide) (Nat.le_of_ble_eq_true rfl) b2 a2 (by decide) (by decide) (nI_pos (by omega)) (by rw [z0, zz]; omega) (by rw [z0, zz]; omega) ?_
  rw [z0, zz]
  exact e_vret dX5_copyFrom_33 rfl (hp _ ⟨_, ⟨getset a1 (by omega), getself a2⟩, fun i hi => cpy0 hi, (FO.rf.set (Or.inl rfl)).set (Or.inr rfl)⟩)
