/-- years do nothing to the things but shut them -/
def ZK (N0 N : Nat → Int32) : Prop := ∀ j, 112 ≤ j → j < 182 → N j = N0 j
theorem ZK.up {N0 N : Nat → Int32} (h : ZK N0 N) {k : Nat} {x : Int32} (hk : k < 112) : ZK N0 (upd N k x) := fun j a b => (show upd N k x j = N j from pk_un (by omega)).trans (h j a b)
theorem goV_ZK {N N0 : Nat → Int32} (h : ZK N0 N) (u : List Nat) (C : Nat → Int32) (hv v : Nat) (hv8 : v ≤ 8) : ZK N0 (goV u C hv N v).1 := by
  induction v with
  | zero => exact h
  | succ v ih =>
    rw [goV]
    exact ((ih (by omega)).up (by omega)).up (by omega) |>.up (by omega)
theorem goR_ZK {N N0 : Nat → Int32} (h : ZK N0 N) (u : List Nat) (C : Nat → Int32) (nv : Nat) (hnv : nv ≤ 8) : ZK N0 (goR u C N nv) := by
  unfold goR
  by_cases z : nv = 0
  · rw [if_pos z]; exact h
  · rw [if_neg z]
    have h8 := havW_lt C nv (by omega)
    exact (((goV_ZK h u C _ nv hnv).up (by omega)).up (by omega)).up (by omega)
theorem coW_ZK {N N0 : Nat → Int32} (h : ZK N0 N) (u : List Nat) (C : Nat → Int32) (v : Nat) (hv8 : v ≤ 8) : ZK N0 (coW u C N v) := by
  induction v with
  | zero => exact h
  | succ v ih => exact (ih (by omega)).up (by omega)
theorem lvs_ZK {N N0 : Nat → Int32} (h : ZK N0 N) (v : Nat) (hv8 : v ≤ 8) : ZK N0 (lvs N v) := by
  induction v with
  | zero => exact h
  | succ v ih => exact (((ih (by omega)).up (by omega)).up (by omega)).up (by omega)
theorem cstW_ZK {N N0 : Nat → Int32} (h : ZK N0 N) (t : Nat) : ZK N0 (cstW N t) := by
  induction t with
  | zero => exact h.up (by omega)
  | succ t ih => exact ih.up (by omega)
theorem shW_back {N : Nat → Int32} {nv : Nat} {u : List Nat} (c : Nat) {t : Nat} (ht : t < 10) (h : shW N nv u c (112 + 7 * t + 5) = nI 1) : N (112 + 7 * t + 5) = nI 1 := by
  induction c with
  | zero => exact h
  | succ c ih =>
    rw [shW] at h
    split at h
    · by_cases e : t = c
      · rw [e, pk_us] at h
        exact absurd h (by decide)
      · rw [pk_un (by omega)] at h
        exact ih h
    · exact ih h
theorem yearR_back {N G : Nat → Int32} {nv tc : Nat} {tx : Nat → List Nat} (hnv : nv ≤ 8) {t : Nat} (ht : t < 10) (h : yearR G N nv tc tx (112 + 7 * t + 5) = nI 1) : N (112 + 7 * t + 5) = nI 1 := by
  have h1 : ZK (shW N nv (tx 0) tc) (yeR G N nv tc tx) := cstW_ZK (lvs_ZK (coW_ZK (goR_ZK (fun _ _ _ => rfl) _ _ nv hnv) _ _ nv hnv) nv hnv) tc
  have h2 := (h1.up (k := 0) (x := yeR G N nv tc tx 0 + nI 1) (by decide)) (112 + 7 * t + 5) (by omega) (by omega)
  exact shW_back tc ht (h2.symm.trans h)
theorem yrX_back {N M : Nat → Int32} (hnv : nvN N ≤ 8) {t : Nat} (ht : t < 10) (k : Nat) : ∀ j, yrX N M (k + j) (112 + 7 * t + 5) = nI 1 → yrX N M k (112 + 7 * t + 5) = nI 1 := by
  intro j
  induction j with
  | zero => exact id
  | succ j ih => exact fun h => ih (yearR_back hnv ht h)
set_option maxRecDepth 20000 in
theorem cl_stays (D : En) {s : SS} (hI : INV s) {h00 : AH} {post : Option Value → AH → Prop} (y t n : Nat) (ht : t < tcN (sN s)) (hn : n ≤ 40) (hp : ∀ h', (ClsS h' s ∧ FrC h00 h') → post (some (.int (b2 ((yrX (sN s) (edR (sN s) t y) n) (112 + 7 * t + 5) = nI 1)))) h') : ∀ (j : Nat) (k : Nat) (h : AH), (k + j = n) → (ClsS h s) → (FrC h00 h) → (LB h 46 (yrX (sN s) (edR (sN s) t y) k)) → (IN (yrX (sN s) (edR (sN s) t y) k)) → (E3 (yrX (sN s) (edR (sN s) t y) k) (sN s)) → Ev D 7 mX11_staysWith 42 [some (.ref (11)), some (.int (nI (y))), some (.int (nI (t))), some (.int (nI (n))), some (.int (nI (k)))] [] h 0 0 post := by
  have hY := hI.1.1
  have hnv := hY.2.1
  have htc10 := hY.2.2.2.1
  intro j
  induction j with
  | zero =>
    intro k h hm hC hF hA hIA hEA
    have htA : t < tcN (yrX (sN s) (edR (sN s) t y) k) := by rw [hEA.2.1]; exact ht
    refine e_iload dX11_staysWith_42 rfl ?_
    refine e_iload_n dX11_staysWith_44 rfl ?_
    refine e_icmp_geN 72 dX11_staysWith_45 (by decide) (by omega) (by omega) (fun hcq45 => ?_) (fun hcq45 => absurd hcq45 (by omega))
    refine e_aload_n dX11_staysWith_72 rfl ?_
    refine e_get dX11_staysWith_73 fl_X11_26_11 hC.1 rfl ?_
    refine e_iload_n dX11_staysWith_76 rfl ?_
    refine c_V1iR (N := mX4_isOpen) dX11_staysWith_77 lv_X11_155 mo_X4_isOpen hA.1.cn (Nat.le_of_ble_eq_true rfl) (Nat.le_of_ble_eq_true rfl) (by decide) (k_isOpen D hA.1 hIA t (by omega)) ?_
    refine e_top (b2 ((yrX (sN s) (edR (sN s) t y) n) (112 + 7 * t + 5) = nI 1)) (by rw [show k = n by omega]) ?_
    exact e_zretB dX11_staysWith_80 rfl (hp _ ⟨hC, hF⟩)
  | succ j ih =>
    intro k h hm hC hF hA hIA hEA
    have htA : t < tcN (yrX (sN s) (edR (sN s) t y) k) := by rw [hEA.2.1]; exact ht
    refine e_iload dX11_staysWith_42 rfl ?_
    refine e_iload_n dX11_staysWith_44 rfl ?_
    refine e_icmp_geN 72 dX11_staysWith_45 (by decide) (by omega) (by omega) (fun hcq45 => absurd hcq45 (by omega)) (fun hcq45 => ?_)
    refine e_aload_n dX11_staysWith_48 rfl ?_
    refine e_get dX11_staysWith_49 fl_X11_26_11 hC.1 rfl ?_
    refine e_iload_n dX11_staysWith_52 rfl ?_
    refine c_V1iR (N := mX4_isOpen) dX11_staysWith_53 lv_X11_155 mo_X4_isOpen hA.1.cn (Nat.le_of_ble_eq_true rfl) (Nat.le_of_ble_eq_true rfl) (by decide) (k_isOpen D hA.1 hIA t (by omega)) ?_
    refine e_if_eqB 72 dX11_staysWith_56 (by decide) (fun hcq56 => ?_) (fun hcq56 => ?_)
    · have htA : t < tcN (yrX (sN s) (edR (sN s) t y) k) := by rw [hEA.2.1]; exact ht
      refine e_aload_n dX11_staysWith_72 rfl ?_
      refine e_get dX11_staysWith_73 fl_X11_26_11 hC.1 rfl ?_
      refine e_iload_n dX11_staysWith_76 rfl ?_
      refine c_V1iR (N := mX4_isOpen) dX11_staysWith_77 lv_X11_155 mo_X4_isOpen hA.1.cn (Nat.le_of_ble_eq_true rfl) (Nat.le_of_ble_eq_true rfl) (by decide) (k_isOpen D hA.1 hIA t (by omega)) ?_
      refine e_top (b2 ((yrX (sN s) (edR (sN s) t y) n) (112 + 7 * t + 5) = nI 1)) (by rw [b2_f hcq56]; exact (b2_f (fun q => hcq56 (yrX_back hnv (by omega) k (j + 1) (by rw [hm]; exact q)))).symm) ?_
      exact e_zretB dX11_staysWith_80 rfl (hp _ ⟨hC, hF⟩)
    · refine e_aload_n dX11_staysWith_59 rfl ?_
      refine e_get dX11_staysWith_60 fl_X11_26_11 hC.1 rfl ?_
      refine c_V0v (nc := 0) (ns := 0) (mc := 0) (ms := 0) (N := mX4_passYear) dX11_staysWith_63 lv_X11_248 mo_X4_passYear hA.1.cn (Nat.le_of_ble_eq_true rfl) (Nat.le_of_ble_eq_true rfl) (by decide) (c_yA D hC hA hIA hEA) (fun h hP => ?_)
      obtain ⟨hC, hF1, hA, hIA, hEA, hTA, hZ9⟩ := hP
      have hF := hF.trans hF1
      refine e_iincN (k + 1) dX11_staysWith_66 rfl (by decide) (nI_add _ _) ?_
      refine e_goto 42 dX11_staysWith_69 (by decide) ?_
      exact ih (k + 1) _ (by omega) hC hF hA hIA hEA
set_option maxRecDepth 20000 in
theorem c_stays (D : En) {h : AH} {s : SS} (hI : INV s) (hC : ClsS h s) (y t n : Nat) (ht : t < tcN (sN s)) (hy : y ≤ 400) (hn : n ≤ 40) : Sp D 7 mX11_staysWith [.ref (11), .int (nI (y)), .int (nI (t)), .int (nI (n))] h 0 0 (some (.int (b2 ((yrX (sN s) (edR (sN s) t y) n) (112 + 7 * t + 5) = nI 1)))) (fun h' => ClsS h' s ∧ FrC h h') := by
  have hY := hI.1.1
  have hnv := hY.2.1
  have htc10 := hY.2.2.2.1
  obtain ⟨h00, hh00⟩ : ∃ z, z = h := ⟨_, rfl⟩
  have hF : FrC h00 h := by rw [hh00]; exact FrC.rf
  intro post hp
  rw [← hh00] at hp
  show Ev D 7 mX11_staysWith 0 [some (.ref (11)), some (.int (nI (y))), some (.int (nI (t))), some (.int (nI (n))), none] [] h 0 0 post
  refine e_aload_n dX11_staysWith_0 rfl ?_
  refine e_get dX11_staysWith_1 fl_X11_26_11 hC.1 rfl ?_
  refine e_aload_n dX11_staysWith_4 rfl ?_
  refine e_get dX11_staysWith_5 fl_X11_10_11 hC.1 rfl ?_
  refine e_get dX11_staysWith_8 fl_X11_58_2 hC.2.1.1 rfl ?_
  refine c_V1v (nc := 0) (ns := 0) (mc := 0) (ms := 0) (N := mX4_copyFrom) dX11_staysWith_11 lv_X11_232 mo_X4_copyFrom (Shp.cn hC.a44) (Nat.le_of_ble_eq_true rfl) (Nat.le_of_ble_eq_true rfl) (by decide) (c_cpA D hC hI.1) (fun h hP => ?_)
  obtain ⟨hC, hF1, hA, hTA, hZ9⟩ := hP
  have hF := hF.trans hF1
  have hIA := hI.1
  have hEA : E3 (sN s) (sN s) := ⟨rfl, rfl, rfl⟩
  refine e_aload_n dX11_staysWith_14 rfl ?_
  refine e_get dX11_staysWith_15 fl_X11_26_11 hC.1 rfl ?_
  have hat := (hY.2.2.2.2.1 _ ht).2.2.2
  obtain ⟨hLoA, ⟨f1A, hr1A, he1A⟩, ⟨f2A, hr2A, he2A⟩, ⟨f3A, hr3A, he3A⟩, ⟨T4A, hr4A, he4A⟩, ⟨f5A, hr5A, he5A⟩, ⟨f6A, hr6A, he6A⟩, ⟨f7A, hr7A, he7A⟩, ⟨R8A, hr8A, he8A⟩, ⟨f9A, hr9A⟩, ⟨f10A, hr10A⟩, ⟨fGA, hrGA, heGA⟩⟩ := id hA.1
  refine e_get dX11_staysWith_18 fl_X11_84_4 hA.1.1 rfl ?_
  refine e_iconst (nI (3)) dX11_staysWith_21 (by decide) ?_
  refine e_aload_n dX11_staysWith_22 rfl ?_
  refine e_get dX11_staysWith_23 fl_X11_26_11 hC.1 rfl ?_
  refine e_get dX11_staysWith_26 fl_X11_134_4 hA.1.1 rfl ?_
  refine e_iload_n dX11_staysWith_29 rfl ?_
  obtain ⟨b30, hTb30, hb30⟩ := he4A (t) (by omega)
  refine e_ald (v := some b30) (t) dX11_staysWith_30 hr4A (Or.inl rfl) rfl (by omega) (by decide) hTb30 ?_
  refine tf_get1 dX11_staysWith_31 tl_X11_143 hb30 ?_
  refine e_top (nI (atN (sN s) t)) (hY.2.2.2.2.1 _ (by omega)).2.2.1 ?_
  refine e_imulN dX11_staysWith_34 ?_
  refine e_iconst (nI (0)) dX11_staysWith_35 (by decide) ?_
  refine e_iaddN dX11_staysWith_36 ?_
  refine e_iload_n dX11_staysWith_37 rfl ?_
  refine e_ist (3 * atN (sN s) t + 0) dX11_staysWith_38 hr2A rfl (by omega) (by decide) ?_
  have hF := hF.set (c := .inl (0, 24, .inl (upd f2A (3 * atN (sN s) t + 0) (nI y)))) (show 11 ≤ 46 + 2 by decide) (show 46 + 2 < 82 by decide)
  have hA : LB _ 46 (edR (sN s) t y) := hA.pe hIA hr2A (v := atN (sN s) t) (w := 0) hat (by decide) (nI y)
  have hC := hC.ahead (FZ.st (by decide)) hA.2.1 hA.1.shp
  have hIA : IN (edR (sN s) t y) := IN_pe hI.1 hat (by decide) (rg_nI (by omega) (by decide))
  have hEA : E3 (edR (sN s) t y) (sN s) := E3.rf.up (by omega)
  refine e_iconst (nI (0)) dX11_staysWith_39 (by decide) ?_
  refine e_istore dX11_staysWith_40 (by decide) ?_
  exact cl_stays D hI y t n ht hn hp n 0 _ (by omega) hC hF hA hIA hEA
theorem edP_iff {N : Nat → Int32} {t n y : Nat} : edP N t n y = true ↔ yrX N (edR N t y) n (112 + 7 * t + 5) = nI 1 := by
  unfold edP
  exact decide_eq_true_iff
set_option maxRecDepth 20000 in
theorem cl_edge (D : En) {s : SS} (hI : INV s) {h00 : AH} {post : Option Value → AH → Prop} (t n : Int32) (hn_t : t = nI (tn t)) (hl_t : tn t < tcN (sN s)) (hn_n : n = nI (tn n)) (hl_n : tn n ≤ 40) (hp : ∀ h', (ClsS h' ((if fsP (edP (sN s) (tn t) (tn n)) 401 0 < 401 then (nI (fsP (edP (sN s) (tn t) (tn n)) 401 0), s) else er 2 s)).2 ∧ FrC h00 h') → post (some (.int ((if fsP (edP (sN s) (tn t) (tn n)) 401 0 < 401 then (nI (fsP (edP (sN s) (tn t) (tn n)) 401 0), s) else er 2 s)).1)) h') : ∀ (j : Nat) (k : Nat) (h : AH), (k + j = 401) → (ClsS h s) → (FrC h00 h) → (∀ i, i < k → ¬ edP (sN s) (tn t) (tn n) i = true) → Ev D 8 mX11_edge 43 [some (.ref (11)), some (.int (t)), some (.int (n)), some (.int (nI (k)))] [] h 0 0 post := by
  have hY := hI.1.1
  have hnv := hY.2.1
  have htc10 := hY.2.2.2.1
  intro j
  induction j with
  | zero =>
    intro k h hm hC hF hN
    refine e_iload_n dX11_edge_43 rfl ?_
    refine e_sipush (nI (400)) dX11_edge_44 (by decide) ?_
    refine e_icmp_gtN 68 dX11_edge_47 (by decide) (by omega) (by omega) (fun hcq47 => ?_) (fun hcq47 => absurd hcq47 (by omega))
    refine e_aload_n dX11_edge_68 rfl ?_
    refine e_iconst (nI (2)) dX11_edge_69 (by decide) ?_
    refine c_V1i (nc := 0) (ns := 0) (mc := 0) (ms := 0) (N := mX11_error) dX11_edge_70 lv_X11_54 mo_X11_error hC.cn (Nat.le_of_ble_eq_true rfl) (Nat.le_of_ble_eq_true rfl) (by decide) (c_error D hC 2 (by decide)) (fun h hP => ?_)
    obtain ⟨hC, hF1⟩ := hP
    have hF := hF.trans hF1
    have e8 : (if fsP (edP (sN s) (tn t) (tn n)) 401 0 < 401 then (nI (fsP (edP (sN s) (tn t) (tn n)) 401 0), s) else er 2 s) = er 2 s := by rw [fsP_miss 401 0 (fun i a b => hN i (by omega)), Nat.zero_add, if_neg (Nat.lt_irrefl _)]
    rw [e8] at hp
    exact e_iret dX11_edge_73 rfl (hp _ ⟨hC, hF⟩)
  | succ j ih =>
    intro k h hm hC hF hN
    refine e_iload_n dX11_edge_43 rfl ?_
    refine e_sipush (nI (400)) dX11_edge_44 (by decide) ?_
    refine e_icmp_gtN 68 dX11_edge_47 (by decide) (by omega) (by omega) (fun hcq47 => absurd hcq47 (by omega)) (fun hcq47 => ?_)
    refine e_aload_n dX11_edge_50 rfl ?_
    refine e_iload_n dX11_edge_51 rfl ?_
    refine e_iload_n dX11_edge_52 rfl ?_
    refine e_top (nI (tn t)) (hn_t) ?_
    refine e_iload_n dX11_edge_53 rfl ?_
    refine e_top (nI (tn n)) (hn_n) ?_
    refine c_V3i (nc := 0) (ns := 0) (mc := 0) (ms := 0) (N := mX11_staysWith) dX11_edge_54 lv_X11_270 mo_X11_staysWith hC.cn (Nat.le_of_ble_eq_true rfl) (Nat.le_of_ble_eq_true rfl) (by decide) (c_stays D hI hC (k) (tn t) (tn n) (by omega) (by omega) (by omega)) (fun h hP => ?_)
    obtain ⟨hC, hF1⟩ := hP
    have hF := hF.trans hF1
    refine e_if_eqB 62 dX11_edge_57 (by decide) (fun hcq57 => ?_) (fun hcq57 => ?_)
    · refine e_iincN (k + 1) dX11_edge_62 rfl (by decide) (nI_add _ _) ?_
      refine e_goto 43 dX11_edge_65 (by decide) ?_
      exact ih (k + 1) _ (by omega) hC hF (fun i hi q => (Nat.lt_or_ge i k).elim (fun w => hN i w q) (fun w => hcq57 (by rw [show i = k by omega] at q; exact edP_iff.mp q)))
    · refine e_iload_n dX11_edge_60 rfl ?_
      have e8 : (if fsP (edP (sN s) (tn t) (tn n)) 401 0 < 401 then (nI (fsP (edP (sN s) (tn t) (tn n)) 401 0), s) else er 2 s) = (nI k, s) := by rw [fsP_hit (P := edP (sN s) (tn t) (tn n)) 401 0 k (by omega) (by omega) (fun i a b => hN i b) (edP_iff.mpr hcq57), if_pos (by omega)]
      rw [e8] at hp
      exact e_iret dX11_edge_61 rfl (hp _ ⟨hC, hF⟩)
set_option maxRecDepth 20000 in
theorem cp_edge (D : En) {h : AH} {s : SS} (hI : INV s) (hC : ClsS h s) (t : Int32) (n : Int32) : Sp D 8 mX11_edge [.ref (11), .int (t), .int (n)] h 0 0 (some (.int (f_edge s t n).1)) (fun h' => ClsS h' (f_edge s t n).2 ∧ FrC h h') := by
  have hY := hI.1.1
  have hnv := hY.2.1
  have htc10 := hY.2.2.2.1
  obtain ⟨h00, hh00⟩ : ∃ z, z = h := ⟨_, rfl⟩
  have hF : FrC h00 h := by rw [hh00]; exact FrC.rf
  intro post hp
  rw [← hh00] at hp
  show Ev D 8 mX11_edge 0 [some (.ref (11)), some (.int (t)), some (.int (n)), none] [] h 0 0 post
  refine e_aload_n dX11_edge_0 rfl ?_
  refine e_iload_n dX11_edge_1 rfl ?_
  refine c_V1iR (N := mX11_isThing) dX11_edge_2 lv_X11_131 mo_X11_isThing hC.cn (Nat.le_of_ble_eq_true rfl) (Nat.le_of_ble_eq_true rfl) (by decide) (c_isT D hC ((t))) ?_
  refine e_if_eqB 15 dX11_edge_5 (by decide) (fun hcq5 => ?_) (fun hcq5 => ?_)
  · refine e_aload_n dX11_edge_15 rfl ?_
    refine e_iconst (nI (1)) dX11_edge_16 (by decide) ?_
    refine c_V1i (nc := 0) (ns := 0) (mc := 0) (ms := 0) (N := mX11_error) dX11_edge_17 lv_X11_54 mo_X11_error hC.cn (Nat.le_of_ble_eq_true rfl) (Nat.le_of_ble_eq_true rfl) (by decide) (c_error D hC 1 (by decide)) (fun h hP => ?_)
    obtain ⟨hC, hF1⟩ := hP
    have hF := hF.trans hF1
    have e9 : f_edge s t n = er 1 (s) := by rw [f_edge, if_neg hcq5]
    rw [e9] at hp
    exact e_iret dX11_edge_20 rfl (hp _ ⟨hC, hF⟩)
  · obtain ⟨hn_t, hl_t⟩ := isN hcq5 hY.2.2.1 (by omega)
    refine e_iload_n dX11_edge_8 rfl ?_
    refine c_S1iR (N := mX11_isAhead) dX11_edge_9 ls_X11_229 mo_X11_isAhead  (Nat.le_of_ble_eq_true rfl) (Nat.le_of_ble_eq_true rfl) (by decide) (c_isA D ((n))) ?_
    refine e_if_neB 21 dX11_edge_12 (by decide) (fun hcq12 => ?_) (fun hcq12 => ?_)
    · obtain ⟨hn_n, hg_n, hl_n⟩ := wiN hcq12 (by decide) (by decide)
      refine e_aload_n dX11_edge_21 rfl ?_
      refine e_get dX11_edge_22 fl_X11_10_11 hC.1 rfl ?_
      refine e_get dX11_edge_25 fl_X11_58_2 hC.2.1.1 rfl ?_
      refine e_iload_n dX11_edge_28 rfl ?_
      refine e_top (nI (tn t)) (hn_t) ?_
      refine c_V1iR (N := mX4_isOpen) dX11_edge_29 lv_X11_155 mo_X4_isOpen hC.L.1.cn (Nat.le_of_ble_eq_true rfl) (Nat.le_of_ble_eq_true rfl) (by decide) (k_isOpen D hC.L.1 hI.1 (tn t) (by omega)) ?_
      refine e_if_neB 41 dX11_edge_32 (by decide) (fun hcq32 => ?_) (fun hcq32 => ?_)
      · refine e_iconst (nI (0)) dX11_edge_41 (by decide) ?_
        refine e_istore_n dX11_edge_42 (by decide) ?_
        have e9 : f_edge s t n = (if fsP (edP (sN s) (tn t) (tn n)) 401 0 < 401 then (nI (fsP (edP (sN s) (tn t) (tn n)) 401 0), s) else er 2 s) := by rw [f_edge, if_pos hcq5, if_pos hcq12, if_pos hcq32]
        rw [e9] at hp
        exact cl_edge D hI t n hn_t hl_t hn_n hl_n hp 401 0 _ (by omega) hC hF (fun i hi => by omega)
      · refine e_aload_n dX11_edge_35 rfl ?_
        refine e_iconst (nI (2)) dX11_edge_36 (by decide) ?_
        refine c_V1i (nc := 0) (ns := 0) (mc := 0) (ms := 0) (N := mX11_error) dX11_edge_37 lv_X11_54 mo_X11_error hC.cn (Nat.le_of_ble_eq_true rfl) (Nat.le_of_ble_eq_true rfl) (by decide) (c_error D hC 2 (by decide)) (fun h hP => ?_)
        obtain ⟨hC, hF1⟩ := hP
        have hF := hF.trans hF1
        have e9 : f_edge s t n = er 2 (s) := by rw [f_edge, if_pos hcq5, if_pos hcq12, if_neg hcq32]
        rw [e9] at hp
        exact e_iret dX11_edge_40 rfl (hp _ ⟨hC, hF⟩)
    · refine e_aload_n dX11_edge_15 rfl ?_
      refine e_iconst (nI (1)) dX11_edge_16 (by decide) ?_
      refine c_V1i (nc := 0) (ns := 0) (mc := 0) (ms := 0) (N := mX11_error) dX11_edge_17 lv_X11_54 mo_X11_error hC.cn (Nat.le_of_ble_eq_true rfl) (Nat.le_of_ble_eq_true rfl) (by decide) (c_error D hC 1 (by decide)) (fun h hP => ?_)
      obtain ⟨hC, hF1⟩ := hP
      have hF := hF.trans hF1
      have e9 : f_edge s t n = er 1 (s) := by rw [f_edge, if_pos hcq5, if_neg hcq12]
      rw [e9] at hp
      exact e_iret dX11_edge_20 rfl (hp _ ⟨hC, hF⟩)
theorem sv_of {N : Nat → Int32} {k v : Nat} {r : Int32} (hnv : nvN N ≤ 8) : ∀ w, w < nvN N → ((orF (svF N v (if nI k = nI 5 then nI 2 * r else r)) (nvN N) >>> (nI w &&& 31)) &&& nI 1 = 0 ↔ ¬ servR N k r v w) := by
  intro w hw
  rw [tb0 (by omega), bt_orF (F := svF N v (if nI k = nI 5 then nI 2 * r else r)) (P := fun b => wayR N v b ≤ (if nI k = nI 5 then nI 2 * r else r)) (fun _ => rfl) _ (by omega) w (by omega), decide_eq_true_iff]
  exact ⟨fun q z => q ⟨hw, z⟩, fun q z => q z.2⟩
set_option maxRecDepth 20000 in
theorem cl_site (D : En) {s : SS} (hI : IN (sN s)) {h : AH} {post : Option Value → AH → Prop} (hC : ClsS h s) (t b : Nat) (ht : t < tcN (sN s)) (hb : ThingAt h b t (sN s)) (hk9 : kdN (sN s) t < 7) (hp : ∀ h', h' = h → post (some (.int (nI (siteW (usersR (sN s) (nvN (sN s)) (kdN (sN s) t) (sN s (112 + 7 * t + 4))) (nvN (sN s))).1))) h') : ∀ (j : Nat) (v q : Nat) (m : Int32), (v + j = nvN (sN s)) → ((q, m) = siteW (usersR (sN s) (nvN (sN s)) (kdN (sN s) t) (sN s (112 + 7 * t + 4))) v) → Ev D 4 mX11_bestSite 24 [some (.ref (11)), some (.int (nI (t))), some (.ref (13)), some (.ref (b)), some (.int (nI (q))), some (.int (m)), some (.int (nI (v))), none] [] h 0 0 post := by
  have hY := hI.1
  have hnv := hY.2.1
  have htc10 := hY.2.2.2.1
  intro j
  induction j with
  | zero =>
    intro v q m hm hq
    refine e_iload dX11_bestSite_24 rfl ?_
    refine e_aload_n dX11_bestSite_26 rfl ?_
    refine e_get dX11_bestSite_27 fl_X11_61_4 hC.2.1.2.1.1 rfl ?_
    refine e_top (nI (nvN (sN s))) hY.1 ?_
    refine e_icmp_geN 73 dX11_bestSite_30 (by decide) (by omega) (by omega) (fun hcq30 => ?_) (fun hcq30 => absurd hcq30 (by omega))
    refine e_iload dX11_bestSite_73 rfl ?_
    rw [show v = nvN (sN s) by omega] at hq
    exact e_iret dX11_bestSite_75 rfl (by rw [show q = (siteW (usersR (sN s) (nvN (sN s)) (kdN (sN s) t) (sN s (112 + 7 * t + 4))) (nvN (sN s))).1 from congrArg Prod.fst hq]; exact hp _ rfl)
  | succ j ih =>
    intro v q m hm hq
    refine e_iload dX11_bestSite_24 rfl ?_
    refine e_aload_n dX11_bestSite_26 rfl ?_
    refine e_get dX11_bestSite_27 fl_X11_61_4 hC.2.1.2.1.1 rfl ?_
    refine e_top (nI (nvN (sN s))) hY.1 ?_
    refine e_icmp_geN 73 dX11_bestSite_30 (by decide) (by omega) (by omega) (fun hcq30 => absurd hcq30 (by omega)) (fun hcq30 => ?_)
    refine e_aload_n dX11_bestSite_33 rfl ?_
    refine e_aload_n dX11_bestSite_34 rfl ?_
    refine e_iload dX11_bestSite_35 rfl ?_
    refine e_aload_n dX11_bestSite_37 rfl ?_
    refine e_iload dX11_bestSite_38 rfl ?_
    refine e_aload_n dX11_bestSite_40 rfl ?_
    refine vc_X11_358 rfl dX11_bestSite_41 hb hk9 (Nat.le_of_ble_eq_true rfl) (by decide) ?_
    refine c_V2iR (N := mX4_servedFrom) dX11_bestSite_44 lv_X11_361 mo_X4_servedFrom hC.L.1.cn (Nat.le_of_ble_eq_true rfl) (Nat.le_of_ble_eq_true rfl) (by decide) (k_servedFrom D hC.L.1 hI v (by omega) ((if nI (kdN (sN s) t) = nI 5 then nI 2 * sN s (112 + 7 * t + 4) else sN s (112 + 7 * t + 4)))) ?_
    refine vu_X11_164 rfl dX11_bestSite_47 hC.L.1 hI hb hk9 (sN s (112 + 7 * t + 4)) (by omega) (sv_of hnv) (Nat.le_of_ble_eq_true rfl) (by decide) ?_
    refine e_istore dX11_bestSite_50 (by decide) ?_
    refine e_iload dX11_bestSite_52 rfl ?_
    refine e_iload dX11_bestSite_54 rfl ?_
    refine e_icmp_le 67 dX11_bestSite_56 (by decide) (fun hcq56 => ?_) (fun hcq56 => ?_)
    · refine e_iincN (v + 1) dX11_bestSite_67 rfl (by decide) (nI_add _ _) ?_
      refine e_goto 24 dX11_bestSite_70 (by decide) ?_
      exact Ev.drop 7 (ih (v + 1) _ _ (by omega) (by rw [siteW, ← hq]; first | exact (if_pos (Int32.not_le.mp hcq56)).symm | exact (if_neg (Int32.not_lt.mpr hcq56)).symm))
    · refine e_iload dX11_bestSite_59 rfl ?_
      refine e_istore dX11_bestSite_61 (by decide) ?_
      refine e_iload dX11_bestSite_63 rfl ?_
      refine e_istore dX11_bestSite_65 (by decide) ?_
      refine e_iincN (v + 1) dX11_bestSite_67 rfl (by decide) (nI_add _ _) ?_
      refine e_goto 24 dX11_bestSite_70 (by decide) ?_
      exact Ev.drop 7 (ih (v + 1) _ _ (by omega) (by rw [siteW, ← hq]; first | exact (if_pos (Int32.not_le.mp hcq56)).symm | exact (if_neg (Int32.not_lt.mpr hcq56)).symm))
set_option maxRecDepth 20000 in
theorem c_site (D : En) {h : AH} {s : SS} (hI : IN (sN s)) (hC : ClsS h s) (t : Nat) (ht : t < tcN (sN s)) : Sp D 4 mX11_bestSite [.ref (11), .int (nI (t))] h 0 0 (some (.int (nI (stN (sN s) (nvN (sN s)) t)))) (fun h' => h' = h) := by
  have hY := hI.1
  have hnv := hY.2.1
  have htc10 := hY.2.2.2.1
  intro post hp
  show Ev D 4 mX11_bestSite 0 [some (.ref (11)), some (.int (nI (t))), none, none, none, none, none, none] [] h 0 0 post
  refine e_aload_n dX11_bestSite_0 rfl ?_
  refine e_get dX11_bestSite_1 fl_X11_10_11 hC.1 rfl ?_
  refine e_get dX11_bestSite_4 fl_X11_58_2 hC.2.1.1 rfl ?_
  refine e_astore_n dX11_bestSite_7 (by decide) ?_
  refine e_aload_n dX11_bestSite_8 rfl ?_
  obtain ⟨hLo, ⟨f1, hr1, he1⟩, ⟨f2, hr2, he2⟩, ⟨f3, hr3, he3⟩, ⟨T4, hr4, he4⟩, ⟨f5, hr5, he5⟩, ⟨f6, hr6, he6⟩, ⟨f7, hr7, he7⟩, ⟨R8, hr8, he8⟩, ⟨f9, hr9⟩, ⟨f10, hr10⟩, ⟨fG, hrG, heG⟩⟩ := id hC.L.1
  refine e_get dX11_bestSite_9 fl_X11_134_4 hC.2.1.2.1.1 rfl ?_
  refine e_iload_n dX11_bestSite_12 rfl ?_
  obtain ⟨b13, hTb13, hb13⟩ := he4 (t) (by omega)
  refine e_ald (v := some b13) (t) dX11_bestSite_13 hr4 (Or.inl rfl) rfl (by omega) (by decide) hTb13 ?_
  refine e_astore_n dX11_bestSite_14 (by decide) ?_
  refine e_iconst (nI (0)) dX11_bestSite_15 (by decide) ?_
  refine e_istore dX11_bestSite_16 (by decide) ?_
  refine e_iconst (((-1))) dX11_bestSite_18 (by decide) ?_
  refine e_istore dX11_bestSite_19 (by decide) ?_
  refine e_iconst (nI (0)) dX11_bestSite_21 (by decide) ?_
  refine e_istore dX11_bestSite_22 (by decide) ?_
  exact cl_site D hI hC t b13 ht hb13 (hY.2.2.2.2.1 _ ht).2.1 hp (nvN (sN s)) 0 0 _ (by omega) rfl
set_option maxRecDepth 20000 in
theorem c_two1 (D : En) {h : AH} {s : SS} (hI : INV s) (hC : ClsS h s) (a b : Int32) (h2 : ¬ (isT s a ∧ isT s b ∧ ¬ tn a = tn b)) : Sp D 4 mX11_errorOfTwo [.ref (11), .int (a), .int (b)] h 0 0 (some (.int (nI (1)))) (fun h' => h' = h) := by
  have hY := hI.1.1
  have hnv := hY.2.1
  have htc10 := hY.2.2.2.1
  obtain ⟨hLo, ⟨f1, hr1, he1⟩, ⟨f2, hr2, he2⟩, ⟨f3, hr3, he3⟩, ⟨T4, hr4, he4⟩, ⟨f5, hr5, he5⟩, ⟨f6, hr6, he6⟩, ⟨f7, hr7, he7⟩, ⟨R8, hr8, he8⟩, ⟨f9, hr9⟩, ⟨f10, hr10⟩, ⟨fG, hrG, heG⟩⟩ := id hC.L.1
  intro post hp
  show Ev D 4 mX11_errorOfTwo 0 [some (.ref (11)), some (.int (a)), some (.int (b))] [] h 0 0 post
  refine e_aload_n dX11_errorOfTwo_0 rfl ?_
  refine e_iload_n dX11_errorOfTwo_1 rfl ?_
  refine c_V1iR (N := mX11_isThing) dX11_errorOfTwo_2 lv_X11_131 mo_X11_isThing hC.cn (Nat.le_of_ble_eq_true rfl) (Nat.le_of_ble_eq_true rfl) (by decide) (c_isT D hC ((a))) ?_
  refine e_if_eqB 21 dX11_errorOfTwo_5 (by decide) (fun hcq5 => ?_) (fun hcq5 => ?_)
  · refine e_iconst (nI (1)) dX11_errorOfTwo_21 (by decide) ?_
    exact e_iret dX11_errorOfTwo_22 rfl (hp _ rfl)
  · obtain ⟨hn_a, hl_a⟩ := isN hcq5 hY.2.2.1 (by omega)
    refine e_aload_n dX11_errorOfTwo_8 rfl ?_
    refine e_iload_n dX11_errorOfTwo_9 rfl ?_
    refine c_V1iR (N := mX11_isThing) dX11_errorOfTwo_10 lv_X11_131 mo_X11_isThing hC.cn (Nat.le_of_ble_eq_true rfl) (Nat.le_of_ble_eq_true rfl) (by decide) (c_isT D hC ((b))) ?_
    refine e_if_eqB 21 dX11_errorOfTwo_13 (by decide) (fun hcq13 => ?_) (fun hcq13 => ?_)
    · refine e_iconst (nI (1)) dX11_errorOfTwo_21 (by decide) ?_
      exact e_iret dX11_errorOfTwo_22 rfl (hp _ rfl)
    · obtain ⟨hn_b, hl_b⟩ := isN hcq13 hY.2.2.1 (by omega)
      refine e_iload_n dX11_errorOfTwo_16 rfl ?_
      refine e_top (nI (tn a)) (hn_a) ?_
      refine e_iload_n dX11_errorOfTwo_17 rfl ?_
      refine e_top (nI (tn b)) (hn_b) ?_
      refine e_icmp_neN 23 dX11_errorOfTwo_18 (by decide) (by omega) (by omega) (fun hcq18 => absurd ⟨hcq5, hcq13, hcq18⟩ h2) (fun hcq18 => ?_)
      refine e_iconst (nI (1)) dX11_errorOfTwo_21 (by decide) ?_
      exact e_iret dX11_errorOfTwo_22 rfl (hp _ rfl)
set_option maxRecDepth 20000 in
theorem c_two0 (D : En) {h : AH} {s : SS} (hI : INV s) (hC : ClsS h s) (a b : Int32) (h2 : isT s a ∧ isT s b ∧ ¬ tn a = tn b) (hk : kdN (sN s) (tn a) = kdN (sN s) (tn b)) : Sp D 4 mX11_errorOfTwo [.ref (11), .int (a), .int (b)] h 0 0 (some (.int (nI (0)))) (fun h' => h' = h) := by
  have hY := hI.1.1
  have hnv := hY.2.1
  have htc10 := hY.2.2.2.1
  obtain ⟨hLo, ⟨f1, hr1, he1⟩, ⟨f2, hr2, he2⟩, ⟨f3, hr3, he3⟩, ⟨T4, hr4, he4⟩, ⟨f5, hr5, he5⟩, ⟨f6, hr6, he6⟩, ⟨f7, hr7, he7⟩, ⟨R8, hr8, he8⟩, ⟨f9, hr9⟩, ⟨f10, hr10⟩, ⟨fG, hrG, heG⟩⟩ := id hC.L.1
  obtain ⟨hn_a, hl_a⟩ := isN h2.1 hY.2.2.1 (by omega)
  obtain ⟨hn_b, hl_b⟩ := isN h2.2.1 hY.2.2.1 (by omega)
  have hka := (hY.2.2.2.2.1 _ hl_a).2.1
  have hkb := (hY.2.2.2.2.1 _ hl_b).2.1
  intro post hp
  show Ev D 4 mX11_errorOfTwo 0 [some (.ref (11)), some (.int (a)), some (.int (b))] [] h 0 0 post
  refine e_aload_n dX11_errorOfTwo_0 rfl ?_
  refine e_iload_n dX11_errorOfTwo_1 rfl ?_
  refine c_V1iR (N := mX11_isThing) dX11_errorOfTwo_2 lv_X11_131 mo_X11_isThing hC.cn (Nat.le_of_ble_eq_true rfl) (Nat.le_of_ble_eq_true rfl) (by decide) (c_isT D hC ((a))) ?_
  refine e_if_eqB 21 dX11_errorOfTwo_5 (by decide) (fun hcq5 => absurd h2.1 hcq5) (fun hcq5 => ?_)
  refine e_aload_n dX11_errorOfTwo_8 rfl ?_
  refine e_iload_n dX11_errorOfTwo_9 rfl ?_
  refine c_V1iR (N := mX11_isThing) dX11_errorOfTwo_10 lv_X11_131 mo_X11_isThing hC.cn (Nat.le_of_ble_eq_true rfl) (Nat.le_of_ble_eq_true rfl) (by decide) (c_isT D hC ((b))) ?_
  refine e_if_eqB 21 dX11_errorOfTwo_13 (by decide) (fun hcq13 => absurd h2.2.1 hcq13) (fun hcq13 => ?_)
  refine e_iload_n dX11_errorOfTwo_16 rfl ?_
  refine e_top (nI (tn a)) (hn_a) ?_
  refine e_iload_n dX11_errorOfTwo_17 rfl ?_
  refine e_top (nI (tn b)) (hn_b) ?_
  refine e_icmp_neN 23 dX11_errorOfTwo_18 (by decide) (by omega) (by omega) (fun hcq18 => ?_) (fun hcq18 => absurd hcq18 h2.2.2)
  refine e_aload_n dX11_errorOfTwo_23 rfl ?_
  refine e_get dX11_errorOfTwo_24 fl_X11_10_11 hC.1 rfl ?_
  refine e_get dX11_errorOfTwo_27 fl_X11_58_2 hC.2.1.1 rfl ?_
  refine e_get dX11_errorOfTwo_30 fl_X11_134_4 hC.2.1.2.1.1 rfl ?_
  refine e_iload_n dX11_errorOfTwo_33 rfl ?_
  refine e_top (nI (tn a)) (hn_a) ?_
  obtain ⟨b34, hTb34, hb34⟩ := he4 (tn a) (by omega)
  refine e_ald (v := some b34) (tn a) dX11_errorOfTwo_34 hr4 (Or.inl rfl) rfl (by omega) (by decide) hTb34 ?_
  refine vc_X11_138 rfl dX11_errorOfTwo_35 hb34 (hY.2.2.2.2.1 _ (by omega)).2.1 (Nat.le_of_ble_eq_true rfl) (by decide) ?_
  refine e_aload_n dX11_errorOfTwo_38 rfl ?_
  refine e_get dX11_errorOfTwo_39 fl_X11_10_11 hC.1 rfl ?_
  refine e_get dX11_errorOfTwo_42 fl_X11_58_2 hC.2.1.1 rfl ?_
  refine e_get dX11_errorOfTwo_45 fl_X11_134_4 hC.2.1.2.1.1 rfl ?_
  refine e_iload_n dX11_errorOfTwo_48 rfl ?_
  refine e_top (nI (tn b)) (hn_b) ?_
  obtain ⟨b49, hTb49, hb49⟩ := he4 (tn b) (by omega)
  refine e_ald (v := some b49) (tn b) dX11_errorOfTwo_49 hr4 (Or.inl rfl) rfl (by omega) (by decide) hTb49 ?_
  refine vc_X11_138 rfl dX11_errorOfTwo_50 hb49 (hY.2.2.2.2.1 _ (by omega)).2.1 (Nat.le_of_ble_eq_true rfl) (by decide) ?_
  refine e_icmp_neN 60 dX11_errorOfTwo_53 (by decide) (by omega) (by omega) (fun hcq53 => absurd hk hcq53) (fun hcq53 => ?_)
  refine e_iconst (nI (0)) dX11_errorOfTwo_56 (by decide) ?_
  refine e_goto 61 dX11_errorOfTwo_57 (by decide) ?_
  exact e_iret dX11_errorOfTwo_61 rfl (hp _ rfl)
set_option maxRecDepth 20000 in
theorem c_two5 (D : En) {h : AH} {s : SS} (hI : INV s) (hC : ClsS h s) (a b : Int32) (h2 : isT s a ∧ isT s b ∧ ¬ tn a = tn b) (hk : ¬ kdN (sN s) (tn a) = kdN (sN s) (tn b)) : Sp D 4 mX11_errorOfTwo [.ref (11), .int (a), .int (b)] h 0 0 (some (.int (nI (5)))) (fun h' => h' = h) := by
  have hY := hI.1.1
  have hnv := hY.2.1
  have htc10 := hY.2.2.2.1
  obtain ⟨hLo, ⟨f1, hr1, he1⟩, ⟨f2, hr2, he2⟩, ⟨f3, hr3, he3⟩, ⟨T4, hr4, he4⟩, ⟨f5, hr5, he5⟩, ⟨f6, hr6, he6⟩, ⟨f7, hr7, he7⟩, ⟨R8, hr8, he8⟩, ⟨f9, hr9⟩, ⟨f10, hr10⟩, ⟨fG, hrG, heG⟩⟩ := id hC.L.1
  obtain ⟨hn_a, hl_a⟩ := isN h2.1 hY.2.2.1 (by omega)
  obtain ⟨hn_b, hl_b⟩ := isN h2.2.1 hY.2.2.1 (by omega)
  have hka := (hY.2.2.2.2.1 _ hl_a).2.1
  have hkb := (hY.2.2.2.2.1 _ hl_b).2.1
  intro post hp
  show Ev D 4 mX11_errorOfTwo 0 [some (.ref (11)), some (.int (a)), some (.int (b))] [] h 0 0 post
  refine e_aload_n dX11_errorOfTwo_0 rfl ?_
  refine e_iload_n dX11_errorOfTwo_1 rfl ?_
  refine c_V1iR (N := mX11_isThing) dX11_errorOfTwo_2 lv_X11_131 mo_X11_isThing hC.cn (Nat.le_of_ble_eq_true rfl) (Nat.le_of_ble_eq_true rfl) (by decide) (c_isT D hC ((a))) ?_
  refine e_if_eqB 21 dX11_errorOfTwo_5 (by decide) (fun hcq5 => absurd h2.1 hcq5) (fun hcq5 => ?_)
  refine e_aload_n dX11_errorOfTwo_8 rfl ?_
  refine e_iload_n dX11_errorOfTwo_9 rfl ?_
  refine c_V1iR (N := mX11_isThing) dX11_errorOfTwo_10 lv_X11_131 mo_X11_isThing hC.cn (Nat.le_of_ble_eq_true rfl) (Nat.le_of_ble_eq_true rfl) (by decide) (c_isT D hC ((b))) ?_
  refine e_if_eqB 21 dX11_errorOfTwo_13 (by decide) (fun hcq13 => absurd h2.2.1 hcq13) (fun hcq13 => ?_)
  refine e_iload_n dX11_errorOfTwo_16 rfl ?_
  refine e_top (nI (tn a)) (hn_a) ?_
  refine e_iload_n dX11_errorOfTwo_17 rfl ?_
  refine e_top (nI (tn b)) (hn_b) ?_
  refine e_icmp_neN 23 dX11_errorOfTwo_18 (by decide) (by omega) (by omega) (fun hcq18 => ?_) (fun hcq18 => absurd hcq18 h2.2.2)
  refine e_aload_n dX11_errorOfTwo_23 rfl ?_
  refine e_get dX11_errorOfTwo_24 fl_X11_10_11 hC.1 rfl ?_
  refine e_get dX11_errorOfTwo_27 fl_X11_58_2 hC.2.1.1 rfl ?_
  refine e_get dX11_errorOfTwo_30 fl_X11_134_4 hC.2.1.2.1.1 rfl ?_
  refine e_iload_n dX11_errorOfTwo_33 rfl ?_
  refine e_top (nI (tn a)) (hn_a) ?_
  obtain ⟨b34, hTb34, hb34⟩ := he4 (tn a) (by omega)
  refine e_ald (v := some b34) (tn a) dX11_errorOfTwo_34 hr4 (Or.inl rfl) rfl (by omega) (by decide) hTb34 ?_
  refine vc_X11_138 rfl dX11_errorOfTwo_35 hb34 (hY.2.2.2.2.1 _ (by omega)).2.1 (Nat.le_of_ble_eq_true rfl) (by decide) ?_
  refine e_aload_n dX11_errorOfTwo_38 rfl ?_
  refine e_get dX11_errorOfTwo_39 fl_X11_10_11 hC.1 rfl ?_
  refine e_get dX11_errorOfTwo_42 fl_X11_58_2 hC.2.1.1 rfl ?_
  refine e_get dX11_errorOfTwo_45 fl_X11_134_4 hC.2.1.2.1.1 rfl ?_
  refine e_iload_n dX11_errorOfTwo_48 rfl ?_
  refine e_top (nI (tn b)) (hn_b) ?_
  obtain ⟨b49, hTb49, hb49⟩ := he4 (tn b) (by omega)
  refine e_ald (v := some b49) (tn b) dX11_errorOfTwo_49 hr4 (Or.inl rfl) rfl (by omega) (by decide) hTb49 ?_
  refine vc_X11_138 rfl dX11_errorOfTwo_50 hb49 (hY.2.2.2.2.1 _ (by omega)).2.1 (Nat.le_of_ble_eq_true rfl) (by decide) ?_
  refine e_icmp_neN 60 dX11_errorOfTwo_53 (by decide) (by omega) (by omega) (fun hcq53 => ?_) (fun hcq53 => absurd hcq53 hk)
  refine e_iconst (nI (5)) dX11_errorOfTwo_60 (by decide) ?_
  exact e_iret dX11_errorOfTwo_61 rfl (hp _ rfl)
set_option maxRecDepth 20000 in
theorem cp_site (D : En) {h : AH} {s : SS} (hI : INV s) (hC : ClsS h s) (a : Int32) (b : Int32) : Sp D 5 mX11_site [.ref (11), .int (a), .int (b)] h 0 0 (some (.int (f_site s a b).1)) (fun h' => ClsS h' (f_site s a b).2 ∧ FrC h h') := by
  have hY := hI.1.1
  have hnv := hY.2.1
  have htc10 := hY.2.2.2.1
  obtain ⟨h00, hh00⟩ : ∃ z, z = h := ⟨_, rfl⟩
  have hF : FrC h00 h := by rw [hh00]; exact FrC.rf
  intro post hp
  rw [← hh00] at hp
  show Ev D 5 mX11_site 0 [some (.ref (11)), some (.int (a)), some (.int (b)), none] [] h 0 0 post
  by_cases h2 : isT s a ∧ isT s b ∧ ¬ tn a = tn b
  · obtain ⟨hn_a, hl_a⟩ := isN h2.1 hY.2.2.1 (by omega)
    obtain ⟨hn_b, hl_b⟩ := isN h2.2.1 hY.2.2.1 (by omega)
    have hka := (hY.2.2.2.2.1 _ hl_a).2.1
    have hkb := (hY.2.2.2.2.1 _ hl_b).2.1
    by_cases hk : kdN (sN s) (tn a) = kdN (sN s) (tn b)
    · refine e_aload_n dX11_site_0 rfl ?_
      refine e_iload_n dX11_site_1 rfl ?_
      refine e_iload_n dX11_site_2 rfl ?_
      refine c_V2iR (N := mX11_errorOfTwo) dX11_site_3 lv_X11_273 mo_X11_errorOfTwo hC.cn (Nat.le_of_ble_eq_true rfl) (Nat.le_of_ble_eq_true rfl) (by decide) (c_two0 D hI hC a b h2 hk) ?_
      refine e_istore_n dX11_site_6 (by decide) ?_
      refine e_iload_n dX11_site_7 rfl ?_
      refine e_if_neN 19 dX11_site_8 (by decide) (by omega) (fun hcq8 => absurd hcq8 (by decide)) (fun hcq8 => ?_)
      refine e_aload_n dX11_site_11 rfl ?_
      refine e_iload_n dX11_site_12 rfl ?_
      refine e_top (nI (tn a)) (hn_a) ?_
      refine c_V1iR (N := mX11_bestSite) dX11_site_13 lv_X11_276 mo_X11_bestSite hC.cn (Nat.le_of_ble_eq_true rfl) (Nat.le_of_ble_eq_true rfl) (by decide) (c_site D hI.1 hC (tn a) (by omega)) ?_
      refine e_goto 24 dX11_site_16 (by decide) ?_
      have e9 : f_site s a b = (nI (stN (sN s) (nvN (sN s)) (tn a)), s) := by rw [f_site, if_pos h2, if_pos hk]
      rw [e9] at hp
      exact e_iret dX11_site_24 rfl (hp _ ⟨hC, hF⟩)
    · refine e_aload_n dX11_site_0 rfl ?_
      refine e_iload_n dX11_site_1 rfl ?_
      refine e_iload_n dX11_site_2 rfl ?_
      refine c_V2iR (N := mX11_errorOfTwo) dX11_site_3 lv_X11_273 mo_X11_errorOfTwo hC.cn (Nat.le_of_ble_eq_true rfl) (Nat.le_of_ble_eq_true rfl) (by decide) (c_two5 D hI hC a b h2 hk) ?_
      refine e_istore_n dX11_site_6 (by decide) ?_
      refine e_iload_n dX11_site_7 rfl ?_
      refine e_if_neN 19 dX11_site_8 (by decide) (by omega) (fun hcq8 => ?_) (fun hcq8 => absurd hcq8 (by decide))
      refine e_aload_n dX11_site_19 rfl ?_
      refine e_iload_n dX11_site_20 rfl ?_
      refine c_V1i (nc := 0) (ns := 0) (mc := 0) (ms := 0) (N := mX11_error) dX11_site_21 lv_X11_54 mo_X11_error hC.cn (Nat.le_of_ble_eq_true rfl) (Nat.le_of_ble_eq_true rfl) (by decide) (c_error D hC 5 (by decide)) (fun h hP => ?_)
      obtain ⟨hC, hF1⟩ := hP
      have hF := hF.trans hF1
      have e9 : f_site s a b = er 5 (s) := by rw [f_site, if_pos h2, if_neg hk]
      rw [e9] at hp
      exact e_iret dX11_site_24 rfl (hp _ ⟨hC, hF⟩)
  · refine e_aload_n dX11_site_0 rfl ?_
    refine e_iload_n dX11_site_1 rfl ?_
    refine e_iload_n dX11_site_2 rfl ?_
    refine c_V2iR (N := mX11_errorOfTwo) dX11_site_3 lv_X11_273 mo_X11_errorOfTwo hC.cn (Nat.le_of_ble_eq_true rfl) (Nat.le_of_ble_eq_true rfl) (by decide) (c_two1 D hI hC a b h2) ?_
    refine e_istore_n dX11_site_6 (by decide) ?_
    refine e_iload_n dX11_site_7 rfl ?_
    refine e_if_neN 19 dX11_site_8 (by decide) (by omega) (fun hcq8 => ?_) (fun hcq8 => absurd hcq8 (by decide))
    refine e_aload_n dX11_site_19 rfl ?_
    refine e_iload_n dX11_site_20 rfl ?_
    refine c_V1i (nc := 0) (ns := 0) (mc := 0) (ms := 0) (N := mX11_error) dX11_site_21 lv_X11_54 mo_X11_error hC.cn (Nat.le_of_ble_eq_true rfl) (Nat.le_of_ble_eq_true rfl) (by decide) (c_error D hC 1 (by decide)) (fun h hP => ?_)
    obtain ⟨hC, hF1⟩ := hP
    have hF := hF.trans hF1
    have e9 : f_site s a b = er 1 (s) := by rw [f_site, if_neg h2]
    rw [e9] at hp
    exact e_iret dX11_site_24 rfl (hp _ ⟨hC, hF⟩)
