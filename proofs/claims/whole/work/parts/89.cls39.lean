theorem pp_nn {M : Nat → Int32} (hI : IN M) : ∀ nv, nv ≤ 8 → ∃ m, m ≤ 299997 * nv ∧ ppN M nv = nI m := by
  intro nv
  induction nv with
  | zero => intro _; exact ⟨0, by omega, rfl⟩
  | succ nv ih =>
    intro h
    obtain ⟨m, m1, m2⟩ := ih (by omega)
    obtain ⟨k, k1, k2⟩ := allR_nn hI (v := nv) (by omega)
    refine ⟨m + k, by omega, ?_⟩
    show ppN M nv + allR M nv = _
    rw [m2, k2, nI_add]
theorem IN_yrX {N M : Nat → Int32} (hI : IN M) (hE : E3 M N) (n : Nat) : IN (yrX N M n) := by rw [← hE.yrs]; exact IN_yr hI n
theorem ah_nn {N M : Nat → Int32} (hI : IN M) (hE : E3 M N) (hnv : nvN N ≤ 8) (n : Nat) : ∃ m, m < 2 ^ 31 ∧ aheadV N M n = nI m := by
  obtain ⟨m, m1, m2⟩ := pp_nn (IN_yrX hI hE n) (nvN N) hnv
  exact ⟨m, by omega, m2⟩
/-- the best so far: nothing yet, or set and number -/
def R2 (q : Int32 × Int32) (x y : Int32) : Prop := ∃ m l, m < 2 ^ 31 ∧ l < 2 ^ 31 ∧ q = (nI m, nI l) ∧ x = nI m ∧ y = nI l
def RQ (d : Int32) (q : Int32 × Int32) (x y : Int32) : Prop := (q.1 = -1 ∧ x = d ∧ y = -1) ∨ R2 q x y
theorem nI_gt {l : Nat} (h : l < 2 ^ 31) : ¬ nI l ≤ -1 := fun q => absurd (Int32.le_trans (show nI 0 ≤ nI l from (nI_leI (by decide) h).mpr (Nat.zero_le _)) q) (by decide)
theorem nI_nl {l : Nat} (h : l < 2 ^ 31) : ¬ nI l < 0 := Int32.not_lt.mpr ((nI_leI (by decide) h).mpr (Nat.zero_le _))
theorem RQ.ge {d : Int32} {q : Int32 × Int32} {x y : Int32} (h : RQ d q x y) : (-1 : Int32) ≤ y := by
  rcases h with ⟨-, -, e⟩ | ⟨m, l, -, l2, -, -, e⟩
  · rw [e]; decide
  · rw [e]; exact Int32.le_trans (show (-1 : Int32) ≤ nI 0 by decide) ((nI_leI (by decide) l2).mpr (Nat.zero_le _))
def stQ (k : Nat) (L : Int32) (q : Int32 × Int32) : Int32 × Int32 := if q.1 < 0 then (nI k, L) else if L ≤ q.2 then q else (nI k, L)
theorem RQ.no {d : Int32} {q : Int32 × Int32} {x y L : Int32} {k l : Nat} (h : RQ d q x y) (hl : l < 2 ^ 31) (hL : L = nI l) (hle : L ≤ y) : R2 (stQ k L q) x y := by
  rcases h with ⟨-, -, e⟩ | ⟨m, l3, l1, l2, e1, e2, e3⟩
  · rw [e, hL] at hle; exact absurd hle (nI_gt hl)
  · refine ⟨m, l3, l1, l2, ?_, e2, e3⟩
    unfold stQ
    rw [e1, if_neg (nI_nl l1), if_pos (by rw [← e3]; exact hle)]
theorem RQ.yes {d : Int32} {q : Int32 × Int32} {x y L : Int32} {k l : Nat} (h : RQ d q x y) (hl : l < 2 ^ 31) (hL : L = nI l) (hk : k < 2 ^ 31) (hle : ¬ L ≤ y) : R2 (stQ k L q) (nI k) L := by
  refine ⟨k, l, hk, hl, ?_, rfl, hL⟩
  unfold stQ
  rcases h with ⟨e, -, -⟩ | ⟨m, l3, l1, l2, e1, e2, e3⟩
  · rw [e, if_pos (by decide), hL]
  · rw [e1, if_neg (nI_nl l1), if_neg (by rw [← e3]; exact hle), hL]
set_option maxRecDepth 20000 in
theorem cl_roadI (D : En) {s : SS} (hI : INV s) {h00 : AH} {post : Option Value → AH → Prop} (n : Int32) (hn_n : n = nI (tn n)) (hl_n : tn n ≤ 40) (a : Nat) (ha : a < nvN (sN s)) (q0 : Int32 × Int32) (kk : ∀ h x y, ClsS h s → FrC h00 h → RQ (-1) (rdI (sN s) (tn n) a q0 (nvN (sN s) - (a + 1))) x y → Ev D 9 mX11_road 20 [some (.ref 11), some (.int n), some (.int x), some (.int y), some (.int (nI (a + 1))), none, none] [] h 0 0 post) : ∀ (j : Nat) (i : Nat) (x y : Int32) (h : AH), (i + j = nvN (sN s) - (a + 1)) → (ClsS h s) → (FrC h00 h) → (RQ (-1) (rdI (sN s) (tn n) a q0 i) x y) → Ev D 9 mX11_road 41 [some (.ref (11)), some (.int (n)), some (.int (x)), some (.int (y)), some (.int (nI (a))), some (.int (nI (a + 1 + i))), none] [] h 0 0 post := by
  have hY := hI.1.1
  have hnv := hY.2.1
  have htc10 := hY.2.2.2.1
  intro j
  induction j with
  | zero =>
    intro i x y h hm hC hF hQ
    refine e_iload dX11_road_41 rfl ?_
    refine e_aload_n dX11_road_43 rfl ?_
    refine e_get dX11_road_44 fl_X11_10_11 hC.1 rfl ?_
    refine e_get dX11_road_47 fl_X11_58_2 hC.2.1.1 rfl ?_
    refine e_get dX11_road_50 fl_X11_61_4 hC.2.1.2.1.1 rfl ?_
    refine e_top (nI (nvN (sN s))) hY.1 ?_
    refine e_icmp_geN 112 dX11_road_53 (by decide) (by omega) (by omega) (fun hcq53 => ?_) (fun hcq53 => absurd hcq53 (by omega))
    refine e_iincN (a + 1) dX11_road_112 rfl (by decide) (nI_add _ _) ?_
    refine e_goto 20 dX11_road_115 (by decide) ?_
    rw [show i = nvN (sN s) - (a + 1) by omega] at hQ
    exact Ev.drop 5 (kk _ _ _ hC hF hQ)
  | succ j ih =>
    intro i x y h hm hC hF hQ
    refine e_iload dX11_road_41 rfl ?_
    refine e_aload_n dX11_road_43 rfl ?_
    refine e_get dX11_road_44 fl_X11_10_11 hC.1 rfl ?_
    refine e_get dX11_road_47 fl_X11_58_2 hC.2.1.1 rfl ?_
    refine e_get dX11_road_50 fl_X11_61_4 hC.2.1.2.1.1 rfl ?_
    refine e_top (nI (nvN (sN s))) hY.1 ?_
    refine e_icmp_geN 112 dX11_road_53 (by decide) (by omega) (by omega) (fun hcq53 => absurd hcq53 (by omega)) (fun hcq53 => ?_)
    refine e_aload_n dX11_road_56 rfl ?_
    refine e_get dX11_road_57 fl_X11_10_11 hC.1 rfl ?_
    refine e_get dX11_road_60 fl_X11_58_2 hC.2.1.1 rfl ?_
    refine e_iload dX11_road_63 rfl ?_
    refine e_iload dX11_road_65 rfl ?_
    refine c_V2iR (N := mX4_isMended) dX11_road_67 lv_X11_112 mo_X4_isMended hC.L.1.cn (Nat.le_of_ble_eq_true rfl) (Nat.le_of_ble_eq_true rfl) (by decide) (k_isMended D hC.L.1 hI.1 a (a + 1 + i) (by omega) (by omega)) ?_
    refine e_if_eqB 77 dX11_road_70 (by decide) (fun hcq70 => ?_) (fun hcq70 => ?_)
    · refine e_aload_n dX11_road_77 rfl ?_
      refine e_iload dX11_road_78 rfl ?_
      refine e_iload dX11_road_80 rfl ?_
      refine e_iload_n dX11_road_82 rfl ?_
      refine e_top (nI (tn n)) (hn_n) ?_
      refine c_V3i (nc := 0) (ns := 0) (mc := 0) (ms := 0) (N := mX11_leftWithRoad) dX11_road_83 lv_X11_284 mo_X11_leftWithRoad hC.cn (Nat.le_of_ble_eq_true rfl) (Nat.le_of_ble_eq_true rfl) (by decide) (c_lwR D hI hC (a) (a + 1 + i) (by omega) (by omega) (by omega) (tn n) (by omega)) (fun h hP => ?_)
      obtain ⟨hC, hF1⟩ := hP
      have hF := hF.trans hF1
      refine e_istore dX11_road_86 (by decide) ?_
      refine e_iload dX11_road_88 rfl ?_
      refine e_iload_n dX11_road_90 rfl ?_
      refine e_icmp_le 106 dX11_road_91 (by decide) (fun hcq91 => ?_) (fun hcq91 => ?_)
      · refine e_iincN (a + 1 + i + 1) dX11_road_106 rfl (by decide) (nI_add _ _) ?_
        refine e_goto 41 dX11_road_109 (by decide) ?_
        refine Ev.drop 6 ?_
        obtain ⟨l9, hl9, hL9⟩ := ah_nn (IN_mdR hI.1 (show a < 8 by omega) (show a + 1 + i < 8 by omega)) (show E3 (mdR (sN s) a (a + 1 + i)) (sN s) from (E3.rf.up (by omega)).up (by omega)) hnv (tn n)
        exact ih (i + 1) _ _ _ (by omega) hC hF (by rw [rdI, rdS, if_pos (show sN s (48 + 8 * a + (a + 1 + i)) = 0 from rg01 (hI.1.2.2.2.1.2.1 _ (by omega) _ (by omega)).1 hcq70)]; exact Or.inr (hQ.no (k := 10 * a + (a + 1 + i)) hl9 hL9 hcq91))
      · refine e_bipush (nI (10)) dX11_road_94 (by decide) ?_
        refine e_iload dX11_road_96 rfl ?_
        refine e_imulN dX11_road_98 ?_
        refine e_iload dX11_road_99 rfl ?_
        refine e_iaddN dX11_road_101 ?_
        refine e_istore_n dX11_road_102 (by decide) ?_
        refine e_iload dX11_road_103 rfl ?_
        refine e_istore_n dX11_road_105 (by decide) ?_
        refine e_iincN (a + 1 + i + 1) dX11_road_106 rfl (by decide) (nI_add _ _) ?_
        refine e_goto 41 dX11_road_109 (by decide) ?_
        refine Ev.drop 6 ?_
        obtain ⟨l9, hl9, hL9⟩ := ah_nn (IN_mdR hI.1 (show a < 8 by omega) (show a + 1 + i < 8 by omega)) (show E3 (mdR (sN s) a (a + 1 + i)) (sN s) from (E3.rf.up (by omega)).up (by omega)) hnv (tn n)
        exact ih (i + 1) _ _ _ (by omega) hC hF (by rw [rdI, rdS, if_pos (show sN s (48 + 8 * a + (a + 1 + i)) = 0 from rg01 (hI.1.2.2.2.1.2.1 _ (by omega) _ (by omega)).1 hcq70)]; exact Or.inr (hQ.yes (k := 10 * a + (a + 1 + i)) hl9 hL9 (by omega) hcq91))
    · refine e_iconst (((-1))) dX11_road_73 (by decide) ?_
      refine e_goto 86 dX11_road_74 (by decide) ?_
      refine e_istore dX11_road_86 (by decide) ?_
      refine e_iload dX11_road_88 rfl ?_
      refine e_iload_n dX11_road_90 rfl ?_
      refine e_icmp_le 106 dX11_road_91 (by decide) (fun hcq91 => ?_) (fun hcq91 => ?_)
      · refine e_iincN (a + 1 + i + 1) dX11_road_106 rfl (by decide) (nI_add _ _) ?_
        refine e_goto 41 dX11_road_109 (by decide) ?_
        refine Ev.drop 6 ?_
        obtain ⟨l9, hl9, hL9⟩ := ah_nn (IN_mdR hI.1 (show a < 8 by omega) (show a + 1 + i < 8 by omega)) (show E3 (mdR (sN s) a (a + 1 + i)) (sN s) from (E3.rf.up (by omega)).up (by omega)) hnv (tn n)
        exact ih (i + 1) _ _ _ (by omega) hC hF (by rw [rdI, rdS, if_neg (fun z => absurd (z.symm.trans hcq70) (by decide))]; exact hQ)
      · refine e_bipush (nI (10)) dX11_road_94 (by decide) ?_
        refine e_iload dX11_road_96 rfl ?_
        refine e_imulN dX11_road_98 ?_
        refine e_iload dX11_road_99 rfl ?_
        refine e_iaddN dX11_road_101 ?_
        refine e_istore_n dX11_road_102 (by decide) ?_
        refine e_iload dX11_road_103 rfl ?_
        refine e_istore_n dX11_road_105 (by decide) ?_
        refine e_iincN (a + 1 + i + 1) dX11_road_106 rfl (by decide) (nI_add _ _) ?_
        refine e_goto 41 dX11_road_109 (by decide) ?_
        exact absurd hQ.ge hcq91
theorem RQ.x1 {q : Int32 × Int32} {x y : Int32} (h : RQ (-1) q x y) : q.1 = x := by
  rcases h with ⟨e1, e2, -⟩ | ⟨m, l, -, -, e1, e2, -⟩
  · rw [e1, e2]
  · rw [e1, e2]
set_option maxRecDepth 20000 in
theorem cl_road (D : En) {s : SS} (hI : INV s) {h00 : AH} {post : Option Value → AH → Prop} (n : Int32) (hn_n : n = nI (tn n)) (hl_n : tn n ≤ 40) (hp : ∀ h', (ClsS h' ((if 0 ≤ (rdO (sN s) (tn n) (nvN (sN s))).1 then ((rdO (sN s) (tn n) (nvN (sN s))).1, s) else er 2 s)).2 ∧ FrC h00 h') → post (some (.int ((if 0 ≤ (rdO (sN s) (tn n) (nvN (sN s))).1 then ((rdO (sN s) (tn n) (nvN (sN s))).1, s) else er 2 s)).1)) h') : ∀ (j : Nat) (a : Nat) (x y : Int32) (h : AH), (a + j = nvN (sN s)) → (ClsS h s) → (FrC h00 h) → (RQ (-1) (rdO (sN s) (tn n) a) x y) → Ev D 9 mX11_road 20 [some (.ref (11)), some (.int (n)), some (.int (x)), some (.int (y)), some (.int (nI (a))), none, none] [] h 0 0 post := by
  have hY := hI.1.1
  have hnv := hY.2.1
  have htc10 := hY.2.2.2.1
  intro j
  induction j with
  | zero =>
    intro a x y h hm hC hF hQ
    refine e_iload dX11_road_20 rfl ?_
    refine e_aload_n dX11_road_22 rfl ?_
    refine e_get dX11_road_23 fl_X11_10_11 hC.1 rfl ?_
    refine e_get dX11_road_26 fl_X11_58_2 hC.2.1.1 rfl ?_
    refine e_get dX11_road_29 fl_X11_61_4 hC.2.1.2.1.1 rfl ?_
    refine e_top (nI (nvN (sN s))) hY.1 ?_
    refine e_icmp_geN 118 dX11_road_32 (by decide) (by omega) (by omega) (fun hcq32 => ?_) (fun hcq32 => absurd hcq32 (by omega))
    rw [show a = nvN (sN s) by omega] at hQ
    refine e_iload_n dX11_road_118 rfl ?_
    refine e_if_ge 130 dX11_road_119 (by decide) (fun hcq119 => ?_) (fun hcq119 => ?_)
    · refine e_iload_n dX11_road_130 rfl ?_
      have e8 : (if 0 ≤ (rdO (sN s) (tn n) (nvN (sN s))).1 then ((rdO (sN s) (tn n) (nvN (sN s))).1, s) else er 2 s) = (x, s) := by rw [hQ.x1]; exact if_pos hcq119
      rw [e8] at hp
      exact e_iret dX11_road_131 rfl (hp _ ⟨hC, hF⟩)
    · refine e_aload_n dX11_road_122 rfl ?_
      refine e_iconst (nI (2)) dX11_road_123 (by decide) ?_
      refine c_V1i (nc := 0) (ns := 0) (mc := 0) (ms := 0) (N := mX11_error) dX11_road_124 lv_X11_54 mo_X11_error hC.cn (Nat.le_of_ble_eq_true rfl) (Nat.le_of_ble_eq_true rfl) (by decide) (c_error D hC 2 (by decide)) (fun h hP => ?_)
      obtain ⟨hC, hF1⟩ := hP
      have hF := hF.trans hF1
      refine e_goto 131 dX11_road_127 (by decide) ?_
      have e8 : (if 0 ≤ (rdO (sN s) (tn n) (nvN (sN s))).1 then ((rdO (sN s) (tn n) (nvN (sN s))).1, s) else er 2 s) = er 2 s := if_neg (fun z => hcq119 (hQ.x1 ▸ z))
      rw [e8] at hp
      exact e_iret dX11_road_131 rfl (hp _ ⟨hC, hF⟩)
  | succ j ih =>
    intro a x y h hm hC hF hQ
    refine e_iload dX11_road_20 rfl ?_
    refine e_aload_n dX11_road_22 rfl ?_
    refine e_get dX11_road_23 fl_X11_10_11 hC.1 rfl ?_
    refine e_get dX11_road_26 fl_X11_58_2 hC.2.1.1 rfl ?_
    refine e_get dX11_road_29 fl_X11_61_4 hC.2.1.2.1.1 rfl ?_
    refine e_top (nI (nvN (sN s))) hY.1 ?_
    refine e_icmp_geN 118 dX11_road_32 (by decide) (by omega) (by omega) (fun hcq32 => absurd hcq32 (by omega)) (fun hcq32 => ?_)
    refine e_iload dX11_road_35 rfl ?_
    refine e_iconst (nI (1)) dX11_road_37 (by decide) ?_
    refine e_iaddN dX11_road_38 ?_
    refine e_istore dX11_road_39 (by decide) ?_
    exact cl_roadI D hI n hn_n hl_n a (by omega) (rdO (sN s) (tn n) a) (fun h x y hC hF hQ => ih (a + 1) x y h (by omega) hC hF hQ) (nvN (sN s) - (a + 1)) 0 x y h (by omega) hC hF hQ
set_option maxRecDepth 20000 in
theorem cp_road (D : En) {h : AH} {s : SS} (hI : INV s) (hC : ClsS h s) (n : Int32) : Sp D 9 mX11_road [.ref (11), .int (n)] h 0 0 (some (.int (f_road s n).1)) (fun h' => ClsS h' (f_road s n).2 ∧ FrC h h') := by
  have hY := hI.1.1
  have hnv := hY.2.1
  have htc10 := hY.2.2.2.1
  obtain ⟨h00, hh00⟩ : ∃ z, z = h := ⟨_, rfl⟩
  have hF : FrC h00 h := by rw [hh00]; exact FrC.rf
  intro post hp
  rw [← hh00] at hp
  show Ev D 9 mX11_road 0 [some (.ref (11)), some (.int (n)), none, none, none, none, none] [] h 0 0 post
  refine e_iload_n dX11_road_0 rfl ?_
  refine c_S1iR (N := mX11_isAhead) dX11_road_1 ls_X11_229 mo_X11_isAhead  (Nat.le_of_ble_eq_true rfl) (Nat.le_of_ble_eq_true rfl) (by decide) (c_isA D ((n))) ?_
  refine e_if_neB 13 dX11_road_4 (by decide) (fun hcq4 => ?_) (fun hcq4 => ?_)
  · obtain ⟨hn_n, hg_n, hl_n⟩ := wiN hcq4 (by decide) (by decide)
    refine e_iconst (((-1))) dX11_road_13 (by decide) ?_
    refine e_istore_n dX11_road_14 (by decide) ?_
    refine e_iconst (((-1))) dX11_road_15 (by decide) ?_
    refine e_istore_n dX11_road_16 (by decide) ?_
    refine e_iconst (nI (0)) dX11_road_17 (by decide) ?_
    refine e_istore dX11_road_18 (by decide) ?_
    have e9 : f_road s n = (if 0 ≤ (rdO (sN s) (tn n) (nvN (sN s))).1 then ((rdO (sN s) (tn n) (nvN (sN s))).1, s) else er 2 s) := by rw [f_road, if_pos hcq4]
    rw [e9] at hp
    exact cl_road D hI n hn_n hl_n hp (nvN (sN s)) 0 _ _ _ (by omega) hC hF (Or.inl ⟨rfl, rfl, rfl⟩)
  · refine e_aload_n dX11_road_7 rfl ?_
    refine e_iconst (nI (1)) dX11_road_8 (by decide) ?_
    refine c_V1i (nc := 0) (ns := 0) (mc := 0) (ms := 0) (N := mX11_error) dX11_road_9 lv_X11_54 mo_X11_error hC.cn (Nat.le_of_ble_eq_true rfl) (Nat.le_of_ble_eq_true rfl) (by decide) (c_error D hC 1 (by decide)) (fun h hP => ?_)
    obtain ⟨hC, hF1⟩ := hP
    have hF := hF.trans hF1
    have e9 : f_road s n = er 1 (s) := by rw [f_road, if_neg hcq4]
    rw [e9] at hp
    exact e_iret dX11_road_12 rfl (hp _ ⟨hC, hF⟩)
theorem FZ.st2 {a j : Nat} {h h' : AH} {c : AC} (e : h' = h.set j c) (hj : a ≤ j ∧ j ≤ a + 11) : FZ a h h' := by rw [e]; exact FZ.st hj
theorem wn_n {N : Nat → Int32} {t n : Nat} (hI : IN (yrX N N n)) (ht : t < 10) : upd (yrX N N n) (112 + 7 * t + 5) (wnX N t n n) = yrX N N n := by
  have e : wnX N t n n = yrX N N n (112 + 7 * t + 5) := by
    unfold wnX
    rw [if_pos rfl]
    by_cases q : yrX N N n (112 + 7 * t + 5) = nI 1
    · rw [if_pos q, q]
    · rw [if_neg q, rg01 (hI.2.2.2.1.2.2.1 t ht).1 q]
  rw [e]
  exact updS
theorem wnS_eq (N : Nat → Int32) (t n k : Nat) (q : Int32 × Int32) : wnS N t n k q = stQ k (wnL N t n k) q := rfl
set_option maxRecDepth 20000 in
theorem cl_when (D : En) {s : SS} (hI : INV s) {h00 : AH} {post : Option Value → AH → Prop} (t n : Int32) (hn_t : t = nI (tn t)) (hl_t : tn t < tcN (sN s)) (hn_n : n = nI (tn n)) (hl_n : tn n ≤ 40) (hp : ∀ h', (ClsS h' (((wnW (sN s) (tn t) (tn n) (tn n + 1)).1, s)).2 ∧ FrC h00 h') → post (some (.int (((wnW (sN s) (tn t) (tn n) (tn n + 1)).1, s)).1)) h') : ∀ (j : Nat) (k : Nat) (x y : Int32) (h : AH), (k + j = tn n + 1) → (ClsS h s) → (FrC h00 h) → (LB h 58 (yrX (sN s) (sN s) k)) → (IN (yrX (sN s) (sN s) k)) → (E3 (yrX (sN s) (sN s) k) (sN s)) → (TN h 58 (tcN (sN s))) → (RQ (nI 0) (wnW (sN s) (tn t) (tn n) k) x y) → (0 < k → R2 (wnW (sN s) (tn t) (tn n) k) x y) → Ev D 9 mX11_when 63 [some (.ref (11)), some (.int (t)), some (.int (n)), some (.int (x)), some (.int (y)), some (.int (nI (k))), none] [] h 0 0 post := by
  have hY := hI.1.1
  have hnv := hY.2.1
  have htc10 := hY.2.2.2.1
  intro j
  induction j with
  | zero =>
    intro k x y h hm hC hF hP hIP hEP hTP hQ hR
    refine e_iload dX11_when_63 rfl ?_
    refine e_iload_n dX11_when_65 rfl ?_
    refine e_top (nI (tn n)) (hn_n) ?_
    refine e_icmp_gtN 142 dX11_when_66 (by decide) (by omega) (by omega) (fun hcq66 => ?_) (fun hcq66 => absurd hcq66 (by omega))
    refine e_iload_n dX11_when_142 rfl ?_
    have hR := hR (by omega)
    rw [show k = tn n + 1 by omega] at hR
    obtain ⟨m9, l9, -, -, e1, e2, -⟩ := hR
    have e8 : (wnW (sN s) (tn t) (tn n) (tn n + 1)).1 = x := by rw [e1, e2]
    rw [e8] at hp
    exact e_iret dX11_when_143 rfl (hp _ ⟨hC, hF⟩)
  | succ j ih =>
    intro k x y h hm hC hF hP hIP hEP hTP hQ hR
    refine e_iload dX11_when_63 rfl ?_
    refine e_iload_n dX11_when_65 rfl ?_
    refine e_top (nI (tn n)) (hn_n) ?_
    refine e_icmp_gtN 142 dX11_when_66 (by decide) (by omega) (by omega) (fun hcq66 => absurd hcq66 (by omega)) (fun hcq66 => ?_)
    refine e_aload_n dX11_when_69 rfl ?_
    refine e_get dX11_when_70 fl_X11_26_11 hC.1 rfl ?_
    refine e_aload_n dX11_when_73 rfl ?_
    refine e_get dX11_when_74 fl_X11_30_11 hC.1 rfl ?_
    have hP0 := hP
    have hTP0 := hTP
    have hC0 := hC
    refine c_V1v (nc := 0) (ns := 0) (mc := 0) (ms := 0) (N := mX4_copyFrom) dX11_when_77 lv_X11_232 mo_X4_copyFrom (Shp.cn hC.a44) (Nat.le_of_ble_eq_true rfl) (Nat.le_of_ble_eq_true rfl) (by decide) (c_cpAP D hC hP hIP hTP hEP.2.1.symm) (fun h hP => ?_)
    obtain ⟨hC, hF1, hA, hTA, hZ9⟩ := hP
    have hF := hF.trans hF1
    have hIA := hIP
    have hEA := hEP
    have hP := hZ9.lb (by decide) hC.rb hP0 (by decide)
    have hTP := hZ9.tn hC0.rb (by decide) hTP0 (by decide)
    refine e_iload dX11_when_80 rfl ?_
    refine e_iload_n dX11_when_82 rfl ?_
    refine e_top (nI (tn n)) (hn_n) ?_
    refine e_icmp_geN 95 dX11_when_83 (by decide) (by omega) (by omega) (fun hcq83 => ?_) (fun hcq83 => ?_)
    · refine e_aload_n dX11_when_95 rfl ?_
      refine e_get dX11_when_96 fl_X11_26_11 hC.1 rfl ?_
      refine e_iload_n dX11_when_99 rfl ?_
      refine e_top (nI (tn n)) (hn_n) ?_
      refine e_iload dX11_when_100 rfl ?_
      refine e_isubN dX11_when_102 (by omega) ?_
      have hIA9 := hIA
      have hEA9 := hEA
      have hP0 := hP
      have hTP0 := hTP
      have hC0 := hC
      refine c_V1v (nc := 0) (ns := 0) (mc := 0) (ms := 0) (N := mX4_passYears) dX11_when_103 lv_X11_226 mo_X4_passYears hA.1.cn (Nat.le_of_ble_eq_true rfl) (Nat.le_of_ble_eq_true rfl) (by decide) (c_ysA D hC hA hIA hEA ((tn n) - k) (by omega)) (fun h hP => ?_)
      obtain ⟨hC, hF1, hA, hIA, hEA, hZ9⟩ := hP
      have hF := hF.trans hF1
      have hP := hZ9.lb (by decide) hC.rb hP0 (by decide)
      have hTP := hZ9.tn hC0.rb (by decide) hTP0 (by decide)
      refine e_aload_n dX11_when_106 rfl ?_
      refine e_get dX11_when_107 fl_X11_26_11 hC.1 rfl ?_
      refine c_V0iR (N := mX4_allPeople) dX11_when_110 lv_X11_236 mo_X4_allPeople hA.1.cn (Nat.le_of_ble_eq_true rfl) (Nat.le_of_ble_eq_true rfl) (by decide) (k_allPeople D hA.1 hIA ) ?_
      have hkn : k = tn n := by omega
      have ewn : wnL (sN s) (tn t) (tn n) k = aheadV (sN s) (yrX (sN s) (sN s) k) (tn n - k) := by unfold wnL; rw [hkn, wn_n (IN_yr hI.1 _) (by omega)]
      refine e_top (wnL (sN s) (tn t) (tn n) k) (by rw [hEA.1, ewn]; rfl) ?_
      obtain ⟨l9, hl9, hL9⟩ : ∃ l, l < 2 ^ 31 ∧ wnL (sN s) (tn t) (tn n) k = nI l := by rw [ewn]; exact ah_nn hIA9 hEA9 hnv _
      refine e_istore dX11_when_113 (by decide) ?_
      refine e_iload dX11_when_115 rfl ?_
      refine e_iload dX11_when_117 rfl ?_
      refine e_icmp_le 129 dX11_when_119 (by decide) (fun hcq119 => ?_) (fun hcq119 => ?_)
      · have hTP9 := hTP
        refine e_aload_n dX11_when_129 rfl ?_
        refine e_get dX11_when_130 fl_X11_30_11 hC.1 rfl ?_
        refine c_V0v (nc := 0) (ns := 0) (mc := 0) (ms := 0) (N := mX4_passYear) dX11_when_133 lv_X11_248 mo_X4_passYear hP.1.cn (Nat.le_of_ble_eq_true rfl) (Nat.le_of_ble_eq_true rfl) (by decide) (c_yP D hC hP hIP hEP) (fun h hP => ?_)
        obtain ⟨hC, hF1, hP, hIP, hEP, hTP, hZ9⟩ := hP
        have hF := hF.trans hF1
        refine e_iincN (k + 1) dX11_when_136 rfl (by decide) (nI_add _ _) ?_
        refine e_goto 63 dX11_when_139 (by decide) ?_
        refine Ev.drop 6 ?_
        have hr9 := hQ.no (k := k) hl9 hL9 hcq119
        rw [← wnS_eq] at hr9
        exact ih (k + 1) _ _ _ (by omega) hC hF hP hIP hEP (hTP hTP9) (Or.inr hr9) (fun _ => hr9)
      · refine e_iload dX11_when_122 rfl ?_
        refine e_istore_n dX11_when_124 (by decide) ?_
        refine e_iload dX11_when_125 rfl ?_
        refine e_istore dX11_when_127 (by decide) ?_
        have hTP9 := hTP
        refine e_aload_n dX11_when_129 rfl ?_
        refine e_get dX11_when_130 fl_X11_30_11 hC.1 rfl ?_
        refine c_V0v (nc := 0) (ns := 0) (mc := 0) (ms := 0) (N := mX4_passYear) dX11_when_133 lv_X11_248 mo_X4_passYear hP.1.cn (Nat.le_of_ble_eq_true rfl) (Nat.le_of_ble_eq_true rfl) (by decide) (c_yP D hC hP hIP hEP) (fun h hP => ?_)
        obtain ⟨hC, hF1, hP, hIP, hEP, hTP, hZ9⟩ := hP
        have hF := hF.trans hF1
        refine e_iincN (k + 1) dX11_when_136 rfl (by decide) (nI_add _ _) ?_
        refine e_goto 63 dX11_when_139 (by decide) ?_
        refine Ev.drop 6 ?_
        have hr9 := hQ.yes (k := k) hl9 hL9 (by omega) hcq119
        rw [← wnS_eq] at hr9
        exact ih (k + 1) _ _ _ (by omega) hC hF hP hIP hEP (hTP hTP9) (Or.inr hr9) (fun _ => hr9)
    · refine e_aload_n dX11_when_86 rfl ?_
      refine e_get dX11_when_87 fl_X11_26_11 hC.1 rfl ?_
      refine e_iload_n dX11_when_90 rfl ?_
      refine e_top (nI (tn t)) (hn_t) ?_
      refine e_iconst (nI (0)) dX11_when_91 (by decide) ?_
      have hP0 := hP
      have hTP0 := hTP
      have hC0 := hC
      refine c_V2v (nc := 0) (ns := 0) (mc := 0) (ms := 0) (N := mX4_setOpen) dX11_when_92 lv_X11_174 mo_X4_setOpen hA.1.cn (Nat.le_of_ble_eq_true rfl) (Nat.le_of_ble_eq_true rfl) (by decide) (k_setOpen0 D hA.1 hIA (by decide) (tn t) (by rw [hEA.2.1]; omega)) (fun h hP => ?_)
      obtain ⟨y9, hh9, hy9⟩ := hP
      have hF : FrC h00 h := by rw [hh9]; exact hF.set (show 11 ≤ 46 by decide) (show 46 < 82 by decide)
      have hA : LB h 46 (upd (yrX (sN s) (sN s) k) (112 + 7 * (tn t) + 5) (nI 0)) := by rw [hh9]; exact hA.set (by decide) (fun fs e => by cases e) (hA.1.op hIA (by decide) (t := tn t) (by omega) (nI 0) y9 hy9)
      have hZ9 := FZ.st2 (a := 46) hh9 (by decide)
      have hC := hC0.ahead hZ9 hA.2.1 hA.1.shp
      have hP := hZ9.lb (by decide) hC.rb hP0 (by decide)
      have hTP := hZ9.tn hC0.rb (by decide) hTP0 (by decide)
      have hIA := IN_op hIA (t := tn t) (by omega) (rg_nI (a := 0) (m := 1) (by decide) (by decide))
      have hEA := hEA.up (k := 112 + 7 * (tn t) + 5) (x := nI 0) (by omega)
      refine e_aload_n dX11_when_95 rfl ?_
      refine e_get dX11_when_96 fl_X11_26_11 hC.1 rfl ?_
      refine e_iload_n dX11_when_99 rfl ?_
      refine e_top (nI (tn n)) (hn_n) ?_
      refine e_iload dX11_when_100 rfl ?_
      refine e_isubN dX11_when_102 (by omega) ?_
      have hIA9 := hIA
      have hEA9 := hEA
      have hP0 := hP
      have hTP0 := hTP
      have hC0 := hC
      refine c_V1v (nc := 0) (ns := 0) (mc := 0) (ms := 0) (N := mX4_passYears) dX11_when_103 lv_X11_226 mo_X4_passYears hA.1.cn (Nat.le_of_ble_eq_true rfl) (Nat.le_of_ble_eq_true rfl) (by decide) (c_ysA D hC hA hIA hEA ((tn n) - k) (by omega)) (fun h hP => ?_)
      obtain ⟨hC, hF1, hA, hIA, hEA, hZ9⟩ := hP
      have hF := hF.trans hF1
      have hP := hZ9.lb (by decide) hC.rb hP0 (by decide)
      have hTP := hZ9.tn hC0.rb (by decide) hTP0 (by decide)
      refine e_aload_n dX11_when_106 rfl ?_
      refine e_get dX11_when_107 fl_X11_26_11 hC.1 rfl ?_
      refine c_V0iR (N := mX4_allPeople) dX11_when_110 lv_X11_236 mo_X4_allPeople hA.1.cn (Nat.le_of_ble_eq_true rfl) (Nat.le_of_ble_eq_true rfl) (by decide) (k_allPeople D hA.1 hIA ) ?_
      refine e_top (wnL (sN s) (tn t) (tn n) k) (by rw [hEA.1]; unfold wnL wnX; rw [if_neg (show ¬ k = tn n by omega)]; rfl) ?_
      obtain ⟨l9, hl9, hL9⟩ : ∃ l, l < 2 ^ 31 ∧ wnL (sN s) (tn t) (tn n) k = nI l := by unfold wnL wnX; rw [if_neg (show ¬ k = tn n by omega)]; exact ah_nn hIA9 hEA9 hnv _
      refine e_istore dX11_when_113 (by decide) ?_
      refine e_iload dX11_when_115 rfl ?_
      refine e_iload dX11_when_117 rfl ?_
      refine e_icmp_le 129 dX11_when_119 (by decide) (fun hcq119 => ?_) (fun hcq119 => ?_)
      · have hTP9 := hTP
        refine e_aload_n dX11_when_129 rfl ?_
        refine e_get dX11_when_130 fl_X11_30_11 hC.1 rfl ?_
        refine c_V0v (nc := 0) (ns := 0) (mc := 0) (ms := 0) (N := mX4_passYear) dX11_when_133 lv_X11_248 mo_X4_passYear hP.1.cn (Nat.le_of_ble_eq_true rfl) (Nat.le_of_ble_eq_true rfl) (by decide) (c_yP D hC hP hIP hEP) (fun h hP => ?_)
        obtain ⟨hC, hF1, hP, hIP, hEP, hTP, hZ9⟩ := hP
        have hF := hF.trans hF1
        refine e_iincN (k + 1) dX11_when_136 rfl (by decide) (nI_add _ _) ?_
        refine e_goto 63 dX11_when_139 (by decide) ?_
        refine Ev.drop 6 ?_
        have hr9 := hQ.no (k := k) hl9 hL9 hcq119
        rw [← wnS_eq] at hr9
        exact ih (k + 1) _ _ _ (by omega) hC hF hP hIP hEP (hTP hTP9) (Or.inr hr9) (fun _ => hr9)
      · refine e_iload dX11_when_122 rfl ?_
        refine e_istore_n dX11_when_124 (by decide) ?_
        refine e_iload dX11_when_125 rfl ?_
        refine e_istore dX11_when_127 (by decide) ?_
        have hTP9 := hTP
        refine e_aload_n dX11_when_129 rfl ?_
        refine e_get dX11_when_130 fl_X11_30_11 hC.1 rfl ?_
        refine c_V0v (nc := 0) (ns := 0) (mc := 0) (ms := 0) (N := mX4_passYear) dX11_when_133 lv_X11_248 mo_X4_passYear hP.1.cn (Nat.le_of_ble_eq_true rfl) (Nat.le_of_ble_eq_true rfl) (by decide) (c_yP D hC hP hIP hEP) (fun h hP => ?_)
        obtain ⟨hC, hF1, hP, hIP, hEP, hTP, hZ9⟩ := hP
        have hF := hF.trans hF1
        refine e_iincN (k + 1) dX11_when_136 rfl (by decide) (nI_add _ _) ?_
        refine e_goto 63 dX11_when_139 (by decide) ?_
        refine Ev.drop 6 ?_
        have hr9 := hQ.yes (k := k) hl9 hL9 (by omega) hcq119
        rw [← wnS_eq] at hr9
        exact ih (k + 1) _ _ _ (by omega) hC hF hP hIP hEP (hTP hTP9) (Or.inr hr9) (fun _ => hr9)
set_option maxRecDepth 20000 in
theorem cp_when (D : En) {h : AH} {s : SS} (hI : INV s) (hC : ClsS h s) (t : Int32) (n : Int32) : Sp D 9 mX11_when [.ref (11), .int (t), .int (n)] h 0 0 (some (.int (f_when s t n).1)) (fun h' => ClsS h' (f_when s t n).2 ∧ FrC h h') := by
  have hY := hI.1.1
  have hnv := hY.2.1
  have htc10 := hY.2.2.2.1
  obtain ⟨h00, hh00⟩ : ∃ z, z = h := ⟨_, rfl⟩
  have hF : FrC h00 h := by rw [hh00]; exact FrC.rf
  intro post hp
  rw [← hh00] at hp
  show Ev D 9 mX11_when 0 [some (.ref (11)), some (.int (t)), some (.int (n)), none, none, none, none] [] h 0 0 post
  refine e_aload_n dX11_when_0 rfl ?_
  refine e_iload_n dX11_when_1 rfl ?_
  refine c_V1iR (N := mX11_isThing) dX11_when_2 lv_X11_131 mo_X11_isThing hC.cn (Nat.le_of_ble_eq_true rfl) (Nat.le_of_ble_eq_true rfl) (by decide) (c_isT D hC ((t))) ?_
  refine e_if_eqB 15 dX11_when_5 (by decide) (fun hcq5 => ?_) (fun hcq5 => ?_)
  · refine e_aload_n dX11_when_15 rfl ?_
    refine e_iconst (nI (1)) dX11_when_16 (by decide) ?_
    refine c_V1i (nc := 0) (ns := 0) (mc := 0) (ms := 0) (N := mX11_error) dX11_when_17 lv_X11_54 mo_X11_error hC.cn (Nat.le_of_ble_eq_true rfl) (Nat.le_of_ble_eq_true rfl) (by decide) (c_error D hC 1 (by decide)) (fun h hP => ?_)
    obtain ⟨hC, hF1⟩ := hP
    have hF := hF.trans hF1
    have e9 : f_when s t n = er 1 (s) := by rw [f_when, if_neg hcq5]
    rw [e9] at hp
    exact e_iret dX11_when_20 rfl (hp _ ⟨hC, hF⟩)
  · obtain ⟨hn_t, hl_t⟩ := isN hcq5 hY.2.2.1 (by omega)
    refine e_iload_n dX11_when_8 rfl ?_
    refine c_S1iR (N := mX11_isAhead) dX11_when_9 ls_X11_229 mo_X11_isAhead  (Nat.le_of_ble_eq_true rfl) (Nat.le_of_ble_eq_true rfl) (by decide) (c_isA D ((n))) ?_
    refine e_if_neB 21 dX11_when_12 (by decide) (fun hcq12 => ?_) (fun hcq12 => ?_)
    · obtain ⟨hn_n, hg_n, hl_n⟩ := wiN hcq12 (by decide) (by decide)
      refine e_aload_n dX11_when_21 rfl ?_
      refine e_get dX11_when_22 fl_X11_10_11 hC.1 rfl ?_
      refine e_get dX11_when_25 fl_X11_58_2 hC.2.1.1 rfl ?_
      refine e_iload_n dX11_when_28 rfl ?_
      refine e_top (nI (tn t)) (hn_t) ?_
      refine c_V1iR (N := mX4_isOpen) dX11_when_29 lv_X11_155 mo_X4_isOpen hC.L.1.cn (Nat.le_of_ble_eq_true rfl) (Nat.le_of_ble_eq_true rfl) (by decide) (k_isOpen D hC.L.1 hI.1 (tn t) (by omega)) ?_
      refine e_if_neB 41 dX11_when_32 (by decide) (fun hcq32 => ?_) (fun hcq32 => ?_)
      · refine e_aload_n dX11_when_41 rfl ?_
        refine e_get dX11_when_42 fl_X11_30_11 hC.1 rfl ?_
        refine e_aload_n dX11_when_45 rfl ?_
        refine e_get dX11_when_46 fl_X11_10_11 hC.1 rfl ?_
        refine e_get dX11_when_49 fl_X11_58_2 hC.2.1.1 rfl ?_
        refine c_V1v (nc := 0) (ns := 0) (mc := 0) (ms := 0) (N := mX4_copyFrom) dX11_when_52 lv_X11_232 mo_X4_copyFrom (Shp.cn hC.p55) (Nat.le_of_ble_eq_true rfl) (Nat.le_of_ble_eq_true rfl) (by decide) (c_cpP D hC hI.1) (fun h hP => ?_)
        obtain ⟨hC, hF1, hP, hTP, hZ9⟩ := hP
        have hF := hF.trans hF1
        have hIP := hI.1
        have hEP : E3 (sN s) (sN s) := ⟨rfl, rfl, rfl⟩
        refine e_iconst (nI (0)) dX11_when_55 (by decide) ?_
        refine e_istore_n dX11_when_56 (by decide) ?_
        refine e_iconst (((-1))) dX11_when_57 (by decide) ?_
        refine e_istore dX11_when_58 (by decide) ?_
        refine e_iconst (nI (0)) dX11_when_60 (by decide) ?_
        refine e_istore dX11_when_61 (by decide) ?_
        have e9 : f_when s t n = ((wnW (sN s) (tn t) (tn n) (tn n + 1)).1, s) := by rw [f_when, if_pos hcq5, if_pos hcq12, if_pos hcq32]
        rw [e9] at hp
        exact cl_when D hI t n hn_t hl_t hn_n hl_n hp (tn n + 1) 0 _ _ _ (by omega) hC hF hP hIP hEP hTP (Or.inl ⟨rfl, rfl, rfl⟩) (fun z => absurd z (by omega))
      · refine e_aload_n dX11_when_35 rfl ?_
        refine e_iconst (nI (3)) dX11_when_36 (by decide) ?_
        refine c_V1i (nc := 0) (ns := 0) (mc := 0) (ms := 0) (N := mX11_error) dX11_when_37 lv_X11_54 mo_X11_error hC.cn (Nat.le_of_ble_eq_true rfl) (Nat.le_of_ble_eq_true rfl) (by decide) (c_error D hC 3 (by decide)) (fun h hP => ?_)
        obtain ⟨hC, hF1⟩ := hP
        have hF := hF.trans hF1
        have e9 : f_when s t n = er 3 (s) := by rw [f_when, if_pos hcq5, if_pos hcq12, if_neg hcq32]
        rw [e9] at hp
        exact e_iret dX11_when_40 rfl (hp _ ⟨hC, hF⟩)
    · refine e_aload_n dX11_when_15 rfl ?_
      refine e_iconst (nI (1)) dX11_when_16 (by decide) ?_
      refine c_V1i (nc := 0) (ns := 0) (mc := 0) (ms := 0) (N := mX11_error) dX11_when_17 lv_X11_54 mo_X11_error hC.cn (Nat.le_of_ble_eq_true rfl) (Nat.le_of_ble_eq_true rfl) (by decide) (c_error D hC 1 (by decide)) (fun h hP => ?_)
      obtain ⟨hC, hF1⟩ := hP
      have hF := hF.trans hF1
      have e9 : f_when s t n = er 1 (s) := by rw [f_when, if_pos hcq5, if_neg hcq12]
      rw [e9] at hp
      exact e_iret dX11_when_20 rfl (hp _ ⟨hC, hF⟩)
