def tlX (sp ls x : Int32) (t : TS) : Int32 × TS := ((rsF 6 6 sp ls x (bgV (nI 70) t)).1 - (tlS 6 sp ls x (rsF 6 6 sp ls x (bgV (nI 70) t)).2).1, (tlS 6 sp ls x (rsF 6 6 sp ls x (bgV (nI 70) t)).2).2)
theorem vc36 (sp ls x : Int32) (t : TS) : vcF 3 6 6 sp ls x t = tlX sp ls x t := by
  unfold vcF tlX
  rw [if_neg (by decide), if_neg (by decide), if_neg (by decide)]
  unfold tlF
  rw [if_neg (by decide), if_pos rfl]
theorem TR.cn {h : AH} {t : TS} (hT : TR h t) : CN h 71 RX5 := by
  obtain ⟨f, b, r, -⟩ := hT
  exact r.cn
set_option maxRecDepth 20000 in
theorem vo_holding_X9_9 (D : En) {h : AH} {b t : Nat} {N : Nat → Int32} {tr : TS} (hb : h[b]? = some (.inr (9, tgF N t))) (h97 : 101 ≤ b) (hT : TR h tr) (x : Int32) : Sp D 1 mX9_holding [.ref b, .int x, .ref 71] h 0 0 (some (.int (hdB (nI t) x tr).1)) (fun h' => TR h' (hdB (nI t) x tr).2 ∧ FO 71 h h') := by
  obtain ⟨h00, hh00⟩ : ∃ z, z = h := ⟨_, rfl⟩
  have hF : FO 71 h00 h := by rw [hh00]; exact FO.rf
  intro post hp
  rw [← hh00] at hp
  show Ev D 1 mX9_holding 0 [some (.ref (b)), some (.int (x)), some (.ref (71))] [] h 0 0 post
  refine e_aload_n dX9_holding_0 rfl ?_
  refine e_bipush (nI (10)) dX9_holding_1 (by decide) ?_
  refine c_V1v (nc := 0) (ns := 0) (mc := 0) (ms := 0) (N := mX5_add) dX9_holding_3 lv_X9_33 mo_X5_add (hT.cn) (Nat.le_of_ble_eq_true rfl) (Nat.le_of_ble_eq_true rfl) (by decide) (k_tadd D hT (nI (10))) (fun h hP => ?_)
  obtain ⟨hT, hF1⟩ := hP
  have hF := hF.trans hF1
  have hb := (hF1.2 b (by omega) (by omega)).trans hb
  refine e_iload_n dX9_holding_6 rfl ?_
  refine e_aload_n dX9_holding_7 rfl ?_
  refine e_get dX9_holding_8 fl_X9_9_9 hb rfl ?_
  refine e_iadd dX9_holding_11 ?_
  exact e_iret dX9_holding_12 rfl (hp _ ⟨hT, hF⟩)
set_option maxRecDepth 20000 in
theorem vo_holding_X9_7 (D : En) {h : AH} {b t : Nat} {N : Nat → Int32} {tr : TS} (hb : h[b]? = some (.inr (7, tgF N t))) (h97 : 101 ≤ b) (hT : TR h tr) (x : Int32) : Sp D 1 mX9_holding [.ref b, .int x, .ref 71] h 0 0 (some (.int (hdB (nI t) x tr).1)) (fun h' => TR h' (hdB (nI t) x tr).2 ∧ FO 71 h h') := by
  obtain ⟨h00, hh00⟩ : ∃ z, z = h := ⟨_, rfl⟩
  have hF : FO 71 h00 h := by rw [hh00]; exact FO.rf
  intro post hp
  rw [← hh00] at hp
  show Ev D 1 mX9_holding 0 [some (.ref (b)), some (.int (x)), some (.ref (71))] [] h 0 0 post
  refine e_aload_n dX9_holding_0 rfl ?_
  refine e_bipush (nI (10)) dX9_holding_1 (by decide) ?_
  refine c_V1v (nc := 0) (ns := 0) (mc := 0) (ms := 0) (N := mX5_add) dX9_holding_3 lv_X9_33 mo_X5_add (hT.cn) (Nat.le_of_ble_eq_true rfl) (Nat.le_of_ble_eq_true rfl) (by decide) (k_tadd D hT (nI (10))) (fun h hP => ?_)
  obtain ⟨hT, hF1⟩ := hP
  have hF := hF.trans hF1
  have hb := (hF1.2 b (by omega) (by omega)).trans hb
  refine e_iload_n dX9_holding_6 rfl ?_
  refine e_aload_n dX9_holding_7 rfl ?_
  refine e_get dX9_holding_8 fl_X9_9_7 hb rfl ?_
  refine e_iadd dX9_holding_11 ?_
  exact e_iret dX9_holding_12 rfl (hp _ ⟨hT, hF⟩)
set_option maxRecDepth 20000 in
theorem vo_holding_X9_8 (D : En) {h : AH} {b t : Nat} {N : Nat → Int32} {tr : TS} (hb : h[b]? = some (.inr (8, tgF N t))) (h97 : 101 ≤ b) (hT : TR h tr) (x : Int32) : Sp D 1 mX9_holding [.ref b, .int x, .ref 71] h 0 0 (some (.int (hdB (nI t) x tr).1)) (fun h' => TR h' (hdB (nI t) x tr).2 ∧ FO 71 h h') := by
  obtain ⟨h00, hh00⟩ : ∃ z, z = h := ⟨_, rfl⟩
  have hF : FO 71 h00 h := by rw [hh00]; exact FO.rf
  intro post hp
  rw [← hh00] at hp
  show Ev D 1 mX9_holding 0 [some (.ref (b)), some (.int (x)), some (.ref (71))] [] h 0 0 post
  refine e_aload_n dX9_holding_0 rfl ?_
  refine e_bipush (nI (10)) dX9_holding_1 (by decide) ?_
  refine c_V1v (nc := 0) (ns := 0) (mc := 0) (ms := 0) (N := mX5_add) dX9_holding_3 lv_X9_33 mo_X5_add (hT.cn) (Nat.le_of_ble_eq_true rfl) (Nat.le_of_ble_eq_true rfl) (by decide) (k_tadd D hT (nI (10))) (fun h hP => ?_)
  obtain ⟨hT, hF1⟩ := hP
  have hF := hF.trans hF1
  have hb := (hF1.2 b (by omega) (by omega)).trans hb
  refine e_iload_n dX9_holding_6 rfl ?_
  refine e_aload_n dX9_holding_7 rfl ?_
  refine e_get dX9_holding_8 fl_X9_9_8 hb rfl ?_
  refine e_iadd dX9_holding_11 ?_
  exact e_iret dX9_holding_12 rfl (hp _ ⟨hT, hF⟩)
set_option maxRecDepth 20000 in
theorem vo_holding_X8_8 (D : En) {h : AH} {b t : Nat} {N : Nat → Int32} {tr : TS} (hb : h[b]? = some (.inr (8, tgF N t))) (h97 : 101 ≤ b) (hT : TR h tr) (x : Int32) : Sp D 2 mX8_holding [.ref b, .int x, .ref 71] h 0 0 (some (.int (hdS (nI t) x tr).1)) (fun h' => TR h' (hdS (nI t) x tr).2 ∧ FO 71 h h') := by
  obtain ⟨h00, hh00⟩ : ∃ z, z = h := ⟨_, rfl⟩
  have hF : FO 71 h00 h := by rw [hh00]; exact FO.rf
  intro post hp
  rw [← hh00] at hp
  show Ev D 2 mX8_holding 0 [some (.ref (b)), some (.int (x)), some (.ref (71))] [] h 0 0 post
  refine e_aload_n dX8_holding_0 rfl ?_
  refine e_bipush (nI (30)) dX8_holding_1 (by decide) ?_
  refine c_V1v (nc := 0) (ns := 0) (mc := 0) (ms := 0) (N := mX5_add) dX8_holding_3 lv_X8_23 mo_X5_add (hT.cn) (Nat.le_of_ble_eq_true rfl) (Nat.le_of_ble_eq_true rfl) (by decide) (k_tadd D hT (nI (30))) (fun h hP => ?_)
  obtain ⟨hT, hF1⟩ := hP
  have hF := hF.trans hF1
  have hb := (hF1.2 b (by omega) (by omega)).trans hb
  refine e_aload_n dX8_holding_6 rfl ?_
  refine e_iload_n dX8_holding_7 rfl ?_
  refine e_aload_n dX8_holding_8 rfl ?_
  refine c_U2i (nc := 0) (ns := 0) (mc := 0) (ms := 0) (N := mX9_holding) dX8_holding_9 lu_X8_29 mo_X9_holding hb rfl (Nat.le_of_ble_eq_true rfl) (Nat.le_of_ble_eq_true rfl) (by decide) (vo_holding_X9_8 D hb h97 hT ((x))) (fun h hP => ?_)
  obtain ⟨hT, hF1⟩ := hP
  have hF := hF.trans hF1
  have hb := (hF1.2 b (by omega) (by omega)).trans hb
  refine e_iconst (nI (3)) dX8_holding_12 (by decide) ?_
  refine e_imul dX8_holding_13 ?_
  exact e_iret dX8_holding_14 rfl (hp _ ⟨hT, hF⟩)
set_option maxRecDepth 20000 in
theorem vo_holding_X9_3 (D : En) {h : AH} {b t : Nat} {N : Nat → Int32} {tr : TS} (hb : h[b]? = some (.inr (3, tgF N t))) (h97 : 101 ≤ b) (hT : TR h tr) (x : Int32) : Sp D 1 mX9_holding [.ref b, .int x, .ref 71] h 0 0 (some (.int (hdB (nI t) x tr).1)) (fun h' => TR h' (hdB (nI t) x tr).2 ∧ FO 71 h h') := by
  obtain ⟨h00, hh00⟩ : ∃ z, z = h := ⟨_, rfl⟩
  have hF : FO 71 h00 h := by rw [hh00]; exact FO.rf
  intro post hp
  rw [← hh00] at hp
  show Ev D 1 mX9_holding 0 [some (.ref (b)), some (.int (x)), some (.ref (71))] [] h 0 0 post
  refine e_aload_n dX9_holding_0 rfl ?_
  refine e_bipush (nI (10)) dX9_holding_1 (by decide) ?_
  refine c_V1v (nc := 0) (ns := 0) (mc := 0) (ms := 0) (N := mX5_add) dX9_holding_3 lv_X9_33 mo_X5_add (hT.cn) (Nat.le_of_ble_eq_true rfl) (Nat.le_of_ble_eq_true rfl) (by decide) (k_tadd D hT (nI (10))) (fun h hP => ?_)
  obtain ⟨hT, hF1⟩ := hP
  have hF := hF.trans hF1
  have hb := (hF1.2 b (by omega) (by omega)).trans hb
  refine e_iload_n dX9_holding_6 rfl ?_
  refine e_aload_n dX9_holding_7 rfl ?_
  refine e_get dX9_holding_8 fl_X9_9_3 hb rfl ?_
  refine e_iadd dX9_holding_11 ?_
  exact e_iret dX9_holding_12 rfl (hp _ ⟨hT, hF⟩)
set_option maxRecDepth 20000 in
theorem vo_holding_X8_3 (D : En) {h : AH} {b t : Nat} {N : Nat → Int32} {tr : TS} (hb : h[b]? = some (.inr (3, tgF N t))) (h97 : 101 ≤ b) (hT : TR h tr) (x : Int32) : Sp D 2 mX8_holding [.ref b, .int x, .ref 71] h 0 0 (some (.int (hdS (nI t) x tr).1)) (fun h' => TR h' (hdS (nI t) x tr).2 ∧ FO 71 h h') := by
  obtain ⟨h00, hh00⟩ : ∃ z, z = h := ⟨_, rfl⟩
  have hF : FO 71 h00 h := by rw [hh00]; exact FO.rf
  intro post hp
  rw [← hh00] at hp
  show Ev D 2 mX8_holding 0 [some (.ref (b)), some (.int (x)), some (.ref (71))] [] h 0 0 post
  refine e_aload_n dX8_holding_0 rfl ?_
  refine e_bipush (nI (30)) dX8_holding_1 (by decide) ?_
  refine c_V1v (nc := 0) (ns := 0) (mc := 0) (ms := 0) (N := mX5_add) dX8_holding_3 lv_X8_23 mo_X5_add (hT.cn) (Nat.le_of_ble_eq_true rfl) (Nat.le_of_ble_eq_true rfl) (by decide) (k_tadd D hT (nI (30))) (fun h hP => ?_)
  obtain ⟨hT, hF1⟩ := hP
  have hF := hF.trans hF1
  have hb := (hF1.2 b (by omega) (by omega)).trans hb
  refine e_aload_n dX8_holding_6 rfl ?_
  refine e_iload_n dX8_holding_7 rfl ?_
  refine e_aload_n dX8_holding_8 rfl ?_
  refine c_U2i (nc := 0) (ns := 0) (mc := 0) (ms := 0) (N := mX9_holding) dX8_holding_9 lu_X8_29 mo_X9_holding hb rfl (Nat.le_of_ble_eq_true rfl) (Nat.le_of_ble_eq_true rfl) (by decide) (vo_holding_X9_3 D hb h97 hT ((x))) (fun h hP => ?_)
  obtain ⟨hT, hF1⟩ := hP
  have hF := hF.trans hF1
  have hb := (hF1.2 b (by omega) (by omega)).trans hb
  refine e_iconst (nI (3)) dX8_holding_12 (by decide) ?_
  refine e_imul dX8_holding_13 ?_
  exact e_iret dX8_holding_14 rfl (hp _ ⟨hT, hF⟩)
set_option maxRecDepth 20000 in
theorem vo_holding_X3_3 (D : En) {h : AH} {b t : Nat} {N : Nat → Int32} {tr : TS} (hb : h[b]? = some (.inr (3, tgF N t))) (h97 : 101 ≤ b) (hT : TR h tr) (x : Int32) : Sp D 3 mX3_holding [.ref b, .int x, .ref 71] h 0 0 (some (.int (hdF 3 (nI t) x tr).1)) (fun h' => TR h' (hdF 3 (nI t) x tr).2 ∧ FO 71 h h') := by
  obtain ⟨h00, hh00⟩ : ∃ z, z = h := ⟨_, rfl⟩
  have hF : FO 71 h00 h := by rw [hh00]; exact FO.rf
  intro post hp
  rw [← hh00] at hp
  show Ev D 3 mX3_holding 0 [some (.ref (b)), some (.int (x)), some (.ref (71))] [] h 0 0 post
  refine e_aload_n dX3_holding_0 rfl ?_
  refine e_bipush (nI (41)) dX3_holding_1 (by decide) ?_
  refine c_V1v (nc := 0) (ns := 0) (mc := 0) (ms := 0) (N := mX5_add) dX3_holding_3 lv_X3_27 mo_X5_add (hT.cn) (Nat.le_of_ble_eq_true rfl) (Nat.le_of_ble_eq_true rfl) (by decide) (k_tadd D hT (nI (41))) (fun h hP => ?_)
  obtain ⟨hT, hF1⟩ := hP
  have hF := hF.trans hF1
  have hb := (hF1.2 b (by omega) (by omega)).trans hb
  refine e_aload_n dX3_holding_6 rfl ?_
  refine e_iload_n dX3_holding_7 rfl ?_
  refine e_iconst (nI (1)) dX3_holding_8 (by decide) ?_
  refine e_iadd dX3_holding_9 ?_
  refine e_aload_n dX3_holding_10 rfl ?_
  refine c_U2i (nc := 0) (ns := 0) (mc := 0) (ms := 0) (N := mX8_holding) dX3_holding_11 lu_X3_37 mo_X8_holding hb rfl (Nat.le_of_ble_eq_true rfl) (Nat.le_of_ble_eq_true rfl) (by decide) (vo_holding_X8_3 D hb h97 hT (((x) + nI (1)))) (fun h hP => ?_)
  obtain ⟨hT, hF1⟩ := hP
  have hF := hF.trans hF1
  have hb := (hF1.2 b (by omega) (by omega)).trans hb
  exact e_iret dX3_holding_14 rfl (hp _ ⟨hT, hF⟩)
set_option maxRecDepth 20000 in
theorem vo_holding_X9_1 (D : En) {h : AH} {b t : Nat} {N : Nat → Int32} {tr : TS} (hb : h[b]? = some (.inr (1, tgF N t))) (h97 : 101 ≤ b) (hT : TR h tr) (x : Int32) : Sp D 1 mX9_holding [.ref b, .int x, .ref 71] h 0 0 (some (.int (hdB (nI t) x tr).1)) (fun h' => TR h' (hdB (nI t) x tr).2 ∧ FO 71 h h') := by
  obtain ⟨h00, hh00⟩ : ∃ z, z = h := ⟨_, rfl⟩
  have hF : FO 71 h00 h := by rw [hh00]; exact FO.rf
  intro post hp
  rw [← hh00] at hp
  show Ev D 1 mX9_holding 0 [some (.ref (b)), some (.int (x)), some (.ref (71))] [] h 0 0 post
  refine e_aload_n dX9_holding_0 rfl ?_
  refine e_bipush (nI (10)) dX9_holding_1 (by decide) ?_
  refine c_V1v (nc := 0) (ns := 0) (mc := 0) (ms := 0) (N := mX5_add) dX9_holding_3 lv_X9_33 mo_X5_add (hT.cn) (Nat.le_of_ble_eq_true rfl) (Nat.le_of_ble_eq_true rfl) (by decide) (k_tadd D hT (nI (10))) (fun h hP => ?_)
  obtain ⟨hT, hF1⟩ := hP
  have hF := hF.trans hF1
  have hb := (hF1.2 b (by omega) (by omega)).trans hb
  refine e_iload_n dX9_holding_6 rfl ?_
  refine e_aload_n dX9_holding_7 rfl ?_
  refine e_get dX9_holding_8 fl_X9_9_1 hb rfl ?_
  refine e_iadd dX9_holding_11 ?_
  exact e_iret dX9_holding_12 rfl (hp _ ⟨hT, hF⟩)
set_option maxRecDepth 20000 in
theorem vo_holding_X9_10 (D : En) {h : AH} {b t : Nat} {N : Nat → Int32} {tr : TS} (hb : h[b]? = some (.inr (10, tgF N t))) (h97 : 101 ≤ b) (hT : TR h tr) (x : Int32) : Sp D 1 mX9_holding [.ref b, .int x, .ref 71] h 0 0 (some (.int (hdB (nI t) x tr).1)) (fun h' => TR h' (hdB (nI t) x tr).2 ∧ FO 71 h h') := by
  obtain ⟨h00, hh00⟩ : ∃ z, z = h := ⟨_, rfl⟩
  have hF : FO 71 h00 h := by rw [hh00]; exact FO.rf
  intro post hp
  rw [← hh00] at hp
  show Ev D 1 mX9_holding 0 [some (.ref (b)), some (.int (x)), some (.ref (71))] [] h 0 0 post
  refine e_aload_n dX9_holding_0 rfl ?_
  refine e_bipush (nI (10)) dX9_holding_1 (by decide) ?_
  refine c_V1v (nc := 0) (ns := 0) (mc := 0) (ms := 0) (N := mX5_add) dX9_holding_3 lv_X9_33 mo_X5_add (hT.cn) (Nat.le_of_ble_eq_true rfl) (Nat.le_of_ble_eq_true rfl) (by decide) (k_tadd D hT (nI (10))) (fun h hP => ?_)
  obtain ⟨hT, hF1⟩ := hP
  have hF := hF.trans hF1
  have hb := (hF1.2 b (by omega) (by omega)).trans hb
  refine e_iload_n dX9_holding_6 rfl ?_
  refine e_aload_n dX9_holding_7 rfl ?_
  refine e_get dX9_holding_8 fl_X9_9_10 hb rfl ?_
  refine e_iadd dX9_holding_11 ?_
  exact e_iret dX9_holding_12 rfl (hp _ ⟨hT, hF⟩)
set_option maxRecDepth 20000 in
theorem vo_holding_X10_10 (D : En) {h : AH} {b t : Nat} {N : Nat → Int32} {tr : TS} (hb : h[b]? = some (.inr (10, tgF N t))) (h97 : 101 ≤ b) (hT : TR h tr) (x : Int32) : Sp D 2 mX10_holding [.ref b, .int x, .ref 71] h 0 0 (some (.int (hdF 5 (nI t) x tr).1)) (fun h' => TR h' (hdF 5 (nI t) x tr).2 ∧ FO 71 h h') := by
  obtain ⟨h00, hh00⟩ : ∃ z, z = h := ⟨_, rfl⟩
  have hF : FO 71 h00 h := by rw [hh00]; exact FO.rf
  intro post hp
  rw [← hh00] at hp
  show Ev D 2 mX10_holding 0 [some (.ref (b)), some (.int (x)), some (.ref (71))] [] h 0 0 post
  refine e_aload_n dX10_holding_0 rfl ?_
  refine e_bipush (nI (60)) dX10_holding_1 (by decide) ?_
  refine c_V1v (nc := 0) (ns := 0) (mc := 0) (ms := 0) (N := mX5_add) dX10_holding_3 lv_X10_20 mo_X5_add (hT.cn) (Nat.le_of_ble_eq_true rfl) (Nat.le_of_ble_eq_true rfl) (by decide) (k_tadd D hT (nI (60))) (fun h hP => ?_)
  obtain ⟨hT, hF1⟩ := hP
  have hF := hF.trans hF1
  have hb := (hF1.2 b (by omega) (by omega)).trans hb
  refine e_aload_n dX10_holding_6 rfl ?_
  refine e_iload_n dX10_holding_7 rfl ?_
  refine e_aload_n dX10_holding_8 rfl ?_
  refine c_W2i (nc := 0) (ns := 0) (mc := 0) (ms := 0) (N := mX9_holding) dX10_holding_9 lw_X10_26 mo_X9_holding hb rfl (Nat.le_of_ble_eq_true rfl) (Nat.le_of_ble_eq_true rfl) (by decide) (vo_holding_X9_10 D hb h97 hT ((x))) (fun h hP => ?_)
  obtain ⟨hT, hF1⟩ := hP
  have hF := hF.trans hF1
  have hb := (hF1.2 b (by omega) (by omega)).trans hb
  refine e_aload_n dX10_holding_12 rfl ?_
  refine e_get dX10_holding_13 fl_X10_30_10 hb rfl ?_
  refine e_ixor dX10_holding_16 ?_
  exact e_iret dX10_holding_17 rfl (hp _ ⟨hT, hF⟩)
set_option maxRecDepth 20000 in
theorem vo_holding_X9_0 (D : En) {h : AH} {b t : Nat} {N : Nat → Int32} {tr : TS} (hb : h[b]? = some (.inr (0, tgF N t))) (h97 : 101 ≤ b) (hT : TR h tr) (x : Int32) : Sp D 1 mX9_holding [.ref b, .int x, .ref 71] h 0 0 (some (.int (hdB (nI t) x tr).1)) (fun h' => TR h' (hdB (nI t) x tr).2 ∧ FO 71 h h') := by
  obtain ⟨h00, hh00⟩ : ∃ z, z = h := ⟨_, rfl⟩
  have hF : FO 71 h00 h := by rw [hh00]; exact FO.rf
  intro post hp
  rw [← hh00] at hp
  show Ev D 1 mX9_holding 0 [some (.ref (b)), some (.int (x)), some (.ref (71))] [] h 0 0 post
  refine e_aload_n dX9_holding_0 rfl ?_
  refine e_bipush (nI (10)) dX9_holding_1 (by decide) ?_
  refine c_V1v (nc := 0) (ns := 0) (mc := 0) (ms := 0) (N := mX5_add) dX9_holding_3 lv_X9_33 mo_X5_add (hT.cn) (Nat.le_of_ble_eq_true rfl) (Nat.le_of_ble_eq_true rfl) (by decide) (k_tadd D hT (nI (10))) (fun h hP => ?_)
  obtain ⟨hT, hF1⟩ := hP
  have hF := hF.trans hF1
  have hb := (hF1.2 b (by omega) (by omega)).trans hb
  refine e_iload_n dX9_holding_6 rfl ?_
  refine e_aload_n dX9_holding_7 rfl ?_
  refine e_get dX9_holding_8 fl_X9_9_0 hb rfl ?_
  refine e_iadd dX9_holding_11 ?_
  exact e_iret dX9_holding_12 rfl (hp _ ⟨hT, hF⟩)
theorem vv_X11_290 {D : En} {d : Nat} {M : Mt} {pc : Nat} {ls : List (Option Value)} {st : List Value} {h : AH} {post : Option Value → AH → Prop} {b t : Nat} {N : Nat → Int32} {tr : TS} {x : Int32} (hM : M.1.cls = RX11) (hd : decode M.2.1 pc = .ok (.invokevirtual 290, 3)) (hb : ThingAt h b t N) (hk : kdN N t < 7) (hT : TR h tr) (hr : (st.map fun v => v.category).sum ≤ 8) (hdd : 3 < d) (kk : ∀ h', TR h' (vcF 0 (kdN N t) (kdN N t) (nI t) (N (112 + 7 * t + 3)) x tr).2 → FO 71 h h' → Ev D d M (pc + 3) ls (.int (vcF 0 (kdN N t) (kdN N t) (nI t) (N (112 + 7 * t + 3)) x tr).1 :: st) h' 0 0 post) : Ev D d M pc ls (.ref 71 :: .int x :: .ref b :: st) h 0 0 post := by
  obtain ⟨h97, hb⟩ := hb
  rcases (show kdN N t = 0 ∨ kdN N t = 1 ∨ kdN N t = 2 ∨ kdN N t = 3 ∨ kdN N t = 4 ∨ kdN N t = 5 ∨ kdN N t = 6 by omega) with e9 | e9 | e9 | e9 | e9 | e9 | e9
  · rw [e9] at hb kk
    exact c_V2i (nc := 0) (ns := 0) (mc := 0) (ms := 0) (N := mX9_holding) hd (by rw [hM]; exact lv_X11_290) mo_X9_holding (Or.inl ⟨9, tgF N t, _, hb, rfl, rfl⟩) hr (Nat.le_of_ble_eq_true rfl) (Nat.lt_of_le_of_lt (by decide) hdd) (vo_holding_X9_9 D hb h97 hT x) (fun h2 hP => kk h2 hP.1 hP.2)
  · rw [e9] at hb kk
    exact c_O2i (nc := 0) (ns := 0) (mc := 0) (ms := 0) (x := yX9_holding) (owner := "EmptyLand$Thing") (C := RX7) (N := mX9_holding) hd (by rw [hM]; exact lo_X11_290_7) mo_X9_holding (Or.inl ⟨7, tgF N t, _, hb, rfl, rfl⟩) hr (Nat.le_of_ble_eq_true rfl) (Nat.lt_of_le_of_lt (by decide) hdd) (vo_holding_X9_7 D hb h97 hT x) (fun h2 hP => kk h2 hP.1 hP.2)
  · rw [e9] at hb kk
    exact c_O2i (nc := 0) (ns := 0) (mc := 0) (ms := 0) (x := yX9_holding) (owner := "EmptyLand$Thing") (C := RX8) (N := mX8_holding) hd (by rw [hM]; exact lo_X11_290_8) mo_X8_holding (Or.inl ⟨8, tgF N t, _, hb, rfl, rfl⟩) hr (Nat.le_of_ble_eq_true rfl) (Nat.lt_of_le_of_lt (by decide) hdd) (vo_holding_X8_8 D hb h97 hT x) (fun h2 hP => kk h2 hP.1 hP.2)
  · rw [e9] at hb kk
    exact c_O2i (nc := 0) (ns := 0) (mc := 0) (ms := 0) (x := yX9_holding) (owner := "EmptyLand$Thing") (C := RX3) (N := mX3_holding) hd (by rw [hM]; exact lo_X11_290_3) mo_X3_holding (Or.inl ⟨3, tgF N t, _, hb, rfl, rfl⟩) hr (Nat.le_of_ble_eq_true rfl) (Nat.lt_of_le_of_lt (by decide) hdd) (vo_holding_X3_3 D hb h97 hT x) (fun h2 hP => kk h2 hP.1 hP.2)
  · rw [e9] at hb kk
    exact c_O2i (nc := 0) (ns := 0) (mc := 0) (ms := 0) (x := yX9_holding) (owner := "EmptyLand$Thing") (C := RX1) (N := mX9_holding) hd (by rw [hM]; exact lo_X11_290_1) mo_X9_holding (Or.inl ⟨1, tgF N t, _, hb, rfl, rfl⟩) hr (Nat.le_of_ble_eq_true rfl) (Nat.lt_of_le_of_lt (by decide) hdd) (vo_holding_X9_1 D hb h97 hT x) (fun h2 hP => kk h2 hP.1 hP.2)
  · rw [e9] at hb kk
    exact c_O2i (nc := 0) (ns := 0) (mc := 0) (ms := 0) (x := yX9_holding) (owner := "EmptyLand$Thing") (C := RX10) (N := mX10_holding) hd (by rw [hM]; exact lo_X11_290_10) mo_X10_holding (Or.inl ⟨10, tgF N t, _, hb, rfl, rfl⟩) hr (Nat.le_of_ble_eq_true rfl) (Nat.lt_of_le_of_lt (by decide) hdd) (vo_holding_X10_10 D hb h97 hT x) (fun h2 hP => kk h2 hP.1 hP.2)
  · rw [e9] at hb kk
    exact c_O2i (nc := 0) (ns := 0) (mc := 0) (ms := 0) (x := yX9_holding) (owner := "EmptyLand$Thing") (C := RX0) (N := mX9_holding) hd (by rw [hM]; exact lo_X11_290_0) mo_X9_holding (Or.inl ⟨0, tgF N t, _, hb, rfl, rfl⟩) hr (Nat.le_of_ble_eq_true rfl) (Nat.lt_of_le_of_lt (by decide) hdd) (vo_holding_X9_0 D hb h97 hT x) (fun h2 hP => kk h2 hP.1 hP.2)
set_option maxRecDepth 20000 in
theorem vo_resting_X9_9 (D : En) {h : AH} {b t : Nat} {N : Nat → Int32} {tr : TS} (hb : h[b]? = some (.inr (9, tgF N t))) (h97 : 101 ≤ b) (hT : TR h tr) (x : Int32) : Sp D 2 mX9_resting [.ref b, .int x, .ref 71] h 0 0 (some (.int (rsB 0 (nI t) x tr).1)) (fun h' => TR h' (rsB 0 (nI t) x tr).2 ∧ FO 71 h h') := by
  obtain ⟨h00, hh00⟩ : ∃ z, z = h := ⟨_, rfl⟩
  have hF : FO 71 h00 h := by rw [hh00]; exact FO.rf
  intro post hp
  rw [← hh00] at hp
  show Ev D 2 mX9_resting 0 [some (.ref (b)), some (.int (x)), some (.ref (71))] [] h 0 0 post
  refine e_aload_n dX9_resting_0 rfl ?_
  refine e_bipush (nI (11)) dX9_resting_1 (by decide) ?_
  refine c_V1v (nc := 0) (ns := 0) (mc := 0) (ms := 0) (N := mX5_add) dX9_resting_3 lv_X9_33 mo_X5_add (hT.cn) (Nat.le_of_ble_eq_true rfl) (Nat.le_of_ble_eq_true rfl) (by decide) (k_tadd D hT (nI (11))) (fun h hP => ?_)
  obtain ⟨hT, hF1⟩ := hP
  have hF := hF.trans hF1
  have hb := (hF1.2 b (by omega) (by omega)).trans hb
  refine e_aload_n dX9_resting_6 rfl ?_
  refine e_iload_n dX9_resting_7 rfl ?_
  refine e_aload_n dX9_resting_8 rfl ?_
  refine c_V2i (nc := 0) (ns := 0) (mc := 0) (ms := 0) (N := mX9_holding) dX9_resting_9 lv_X9_39 mo_X9_holding (Or.inl ⟨9, tgF N t, _, hb, rfl, rfl⟩) (Nat.le_of_ble_eq_true rfl) (Nat.le_of_ble_eq_true rfl) (by decide) (show Sp D 1 mX9_holding [.ref b, .int ((x)), .ref 71] h 0 0 (some (.int ((hdF 0 (nI t) ((x)) (bgV (nI (11)) tr))).1)) (fun h' => TR h' ((hdF 0 (nI t) ((x)) (bgV (nI (11)) tr))).2 ∧ FO 71 h h') from vo_holding_X9_9 D hb h97 hT ((x))) (fun h hP => ?_)
  obtain ⟨hT, hF1⟩ := hP
  have hF := hF.trans hF1
  have hb := (hF1.2 b (by omega) (by omega)).trans hb
  refine e_iconst (nI (2)) dX9_resting_12 (by decide) ?_
  refine e_imul dX9_resting_13 ?_
  exact e_iret dX9_resting_14 rfl (hp _ ⟨hT, hF⟩)
set_option maxRecDepth 20000 in
theorem vo_resting_X9_7 (D : En) {h : AH} {b t : Nat} {N : Nat → Int32} {tr : TS} (hb : h[b]? = some (.inr (7, tgF N t))) (h97 : 101 ≤ b) (hT : TR h tr) (x : Int32) : Sp D 2 mX9_resting [.ref b, .int x, .ref 71] h 0 0 (some (.int (rsB 1 (nI t) x tr).1)) (fun h' => TR h' (rsB 1 (nI t) x tr).2 ∧ FO 71 h h') := by
  obtain ⟨h00, hh00⟩ : ∃ z, z = h := ⟨_, rfl⟩
  have hF : FO 71 h00 h := by rw [hh00]; exact FO.rf
  intro post hp
  rw [← hh00] at hp
  show Ev D 2 mX9_resting 0 [some (.ref (b)), some (.int (x)), some (.ref (71))] [] h 0 0 post
  refine e_aload_n dX9_resting_0 rfl ?_
  refine e_bipush (nI (11)) dX9_resting_1 (by decide) ?_
  refine c_V1v (nc := 0) (ns := 0) (mc := 0) (ms := 0) (N := mX5_add) dX9_resting_3 lv_X9_33 mo_X5_add (hT.cn) (Nat.le_of_ble_eq_true rfl) (Nat.le_of_ble_eq_true rfl) (by decide) (k_tadd D hT (nI (11))) (fun h hP => ?_)
  obtain ⟨hT, hF1⟩ := hP
  have hF := hF.trans hF1
  have hb := (hF1.2 b (by omega) (by omega)).trans hb
  refine e_aload_n dX9_resting_6 rfl ?_
  refine e_iload_n dX9_resting_7 rfl ?_
  refine e_aload_n dX9_resting_8 rfl ?_
  refine c_O2i (nc := 0) (ns := 0) (mc := 0) (ms := 0) (x := yX9_holding) (owner := "EmptyLand$Thing") (C := RX7) (N := mX9_holding) dX9_resting_9 lo_X9_39_7 mo_X9_holding (Or.inl ⟨7, tgF N t, _, hb, rfl, rfl⟩) (Nat.le_of_ble_eq_true rfl) (Nat.le_of_ble_eq_true rfl) (by decide) (show Sp D 1 mX9_holding [.ref b, .int ((x)), .ref 71] h 0 0 (some (.int ((hdF 1 (nI t) ((x)) (bgV (nI (11)) tr))).1)) (fun h' => TR h' ((hdF 1 (nI t) ((x)) (bgV (nI (11)) tr))).2 ∧ FO 71 h h') from vo_holding_X9_7 D hb h97 hT ((x))) (fun h hP => ?_)
  obtain ⟨hT, hF1⟩ := hP
  have hF := hF.trans hF1
  have hb := (hF1.2 b (by omega) (by omega)).trans hb
  refine e_iconst (nI (2)) dX9_resting_12 (by decide) ?_
  refine e_imul dX9_resting_13 ?_
  exact e_iret dX9_resting_14 rfl (hp _ ⟨hT, hF⟩)
set_option maxRecDepth 20000 in
theorem vo_falling_X9_7 (D : En) {h : AH} {b t : Nat} {N : Nat → Int32} {tr : TS} (hb : h[b]? = some (.inr (7, tgF N t))) (h97 : 101 ≤ b) (hT : TR h tr) (x : Int32) : Sp D 1 mX9_falling [.ref b, .int x, .ref 71] h 0 0 (some (.int (flB (N (112 + 7 * t + 3)) x tr).1)) (fun h' => TR h' (flB (N (112 + 7 * t + 3)) x tr).2 ∧ FO 71 h h') := by
  obtain ⟨h00, hh00⟩ : ∃ z, z = h := ⟨_, rfl⟩
  have hF : FO 71 h00 h := by rw [hh00]; exact FO.rf
  intro post hp
  rw [← hh00] at hp
  show Ev D 1 mX9_falling 0 [some (.ref (b)), some (.int (x)), some (.ref (71))] [] h 0 0 post
  refine e_aload_n dX9_falling_0 rfl ?_
  refine e_bipush (nI (12)) dX9_falling_1 (by decide) ?_
  refine c_V1v (nc := 0) (ns := 0) (mc := 0) (ms := 0) (N := mX5_add) dX9_falling_3 lv_X9_33 mo_X5_add (hT.cn) (Nat.le_of_ble_eq_true rfl) (Nat.le_of_ble_eq_true rfl) (by decide) (k_tadd D hT (nI (12))) (fun h hP => ?_)
  obtain ⟨hT, hF1⟩ := hP
  have hF := hF.trans hF1
  have hb := (hF1.2 b (by omega) (by omega)).trans hb
  refine e_iload_n dX9_falling_6 rfl ?_
  refine e_aload_n dX9_falling_7 rfl ?_
  refine e_get dX9_falling_8 fl_X9_21_7 hb rfl ?_
  refine e_isub dX9_falling_11 ?_
  exact e_iret dX9_falling_12 rfl (hp _ ⟨hT, hF⟩)
set_option maxRecDepth 20000 in
theorem vo_resting_X7_7 (D : En) {h : AH} {b t : Nat} {N : Nat → Int32} {tr : TS} (hb : h[b]? = some (.inr (7, tgF N t))) (h97 : 101 ≤ b) (hT : TR h tr) (x : Int32) : Sp D 3 mX7_resting [.ref b, .int x, .ref 71] h 0 0 (some (.int (rsS 1 (nI t) (N (112 + 7 * t + 3)) x tr).1)) (fun h' => TR h' (rsS 1 (nI t) (N (112 + 7 * t + 3)) x tr).2 ∧ FO 71 h h') := by
  obtain ⟨h00, hh00⟩ : ∃ z, z = h := ⟨_, rfl⟩
  have hF : FO 71 h00 h := by rw [hh00]; exact FO.rf
  intro post hp
  rw [← hh00] at hp
  show Ev D 3 mX7_resting 0 [some (.ref (b)), some (.int (x)), some (.ref (71))] [] h 0 0 post
  refine e_aload_n dX7_resting_0 rfl ?_
  refine e_bipush (nI (20)) dX7_resting_1 (by decide) ?_
  refine c_V1v (nc := 0) (ns := 0) (mc := 0) (ms := 0) (N := mX5_add) dX7_resting_3 lv_X7_23 mo_X5_add (hT.cn) (Nat.le_of_ble_eq_true rfl) (Nat.le_of_ble_eq_true rfl) (by decide) (k_tadd D hT (nI (20))) (fun h hP => ?_)
  obtain ⟨hT, hF1⟩ := hP
  have hF := hF.trans hF1
  have hb := (hF1.2 b (by omega) (by omega)).trans hb
  refine e_aload_n dX7_resting_6 rfl ?_
  refine e_iload_n dX7_resting_7 rfl ?_
  refine e_aload_n dX7_resting_8 rfl ?_
  refine c_U2i (nc := 0) (ns := 0) (mc := 0) (ms := 0) (N := mX9_resting) dX7_resting_9 lu_X7_29 mo_X9_resting hb rfl (Nat.le_of_ble_eq_true rfl) (Nat.le_of_ble_eq_true rfl) (by decide) (vo_resting_X9_7 D hb h97 hT ((x))) (fun h hP => ?_)
  obtain ⟨hT, hF1⟩ := hP
  have hF := hF.trans hF1
  have hb := (hF1.2 b (by omega) (by omega)).trans hb
  refine e_aload_n dX7_resting_12 rfl ?_
  refine e_iconst (nI (1)) dX7_resting_13 (by decide) ?_
  refine e_aload_n dX7_resting_14 rfl ?_
  refine c_O2i (nc := 0) (ns := 0) (mc := 0) (ms := 0) (x := (⟨"EmptyLand$School", "falling", "(ILEmptyLand$Row;)I"⟩ : MethodName)) (owner := "EmptyLand$Thing") (C := RX7) (N := mX9_falling) dX7_resting_15 lo_X7_33_7 mo_X9_falling (Or.inl ⟨7, tgF N t, _, hb, rfl, rfl⟩) (Nat.le_of_ble_eq_true rfl) (Nat.le_of_ble_eq_true rfl) (by decide) (show Sp D 1 mX9_falling [.ref b, .int (nI (1)), .ref 71] h 0 0 (some (.int ((flF 1 (N (112 + 7 * t + 3)) (nI (1)) ((rsB 1 (nI t) ((x)) (bgV (nI (20)) tr)).2))).1)) (fun h' => TR h' ((flF 1 (N (112 + 7 * t + 3)) (nI (1)) ((rsB 1 (nI t) ((x)) (bgV (nI (20)) tr)).2))).2 ∧ FO 71 h h') from vo_falling_X9_7 D hb h97 hT (nI (1))) (fun h hP => ?_)
  obtain ⟨hT, hF1⟩ := hP
  have hF := hF.trans hF1
  have hb := (hF1.2 b (by omega) (by omega)).trans hb
  refine e_isub dX7_resting_18 ?_
  exact e_iret dX7_resting_19 rfl (hp _ ⟨hT, hF⟩)
set_option maxRecDepth 20000 in
theorem vo_resting_X9_8 (D : En) {h : AH} {b t : Nat} {N : Nat → Int32} {tr : TS} (hb : h[b]? = some (.inr (8, tgF N t))) (h97 : 101 ≤ b) (hT : TR h tr) (x : Int32) : Sp D 3 mX9_resting [.ref b, .int x, .ref 71] h 0 0 (some (.int (rsB 2 (nI t) x tr).1)) (fun h' => TR h' (rsB 2 (nI t) x tr).2 ∧ FO 71 h h') := by
  obtain ⟨h00, hh00⟩ : ∃ z, z = h := ⟨_, rfl⟩
  have hF : FO 71 h00 h := by rw [hh00]; exact FO.rf
  intro post hp
  rw [← hh00] at hp
  show Ev D 3 mX9_resting 0 [some (.ref (b)), some (.int (x)), some (.ref (71))] [] h 0 0 post
  refine e_aload_n dX9_resting_0 rfl ?_
  refine e_bipush (nI (11)) dX9_resting_1 (by decide) ?_
  refine c_V1v (nc := 0) (ns := 0) (mc := 0) (ms := 0) (N := mX5_add) dX9_resting_3 lv_X9_33 mo_X5_add (hT.cn) (Nat.le_of_ble_eq_true rfl) (Nat.le_of_ble_eq_true rfl) (by decide) (k_tadd D hT (nI (11))) (fun h hP => ?_)
  obtain ⟨hT, hF1⟩ := hP
  have hF := hF.trans hF1
  have hb := (hF1.2 b (by omega) (by omega)).trans hb
  refine e_aload_n dX9_resting_6 rfl ?_
  refine e_iload_n dX9_resting_7 rfl ?_
  refine e_aload_n dX9_resting_8 rfl ?_
  refine c_O2i (nc := 0) (ns := 0) (mc := 0) (ms := 0) (x := yX9_holding) (owner := "EmptyLand$Thing") (C := RX8) (N := mX8_holding) dX9_resting_9 lo_X9_39_8 mo_X8_holding (Or.inl ⟨8, tgF N t, _, hb, rfl, rfl⟩) (Nat.le_of_ble_eq_true rfl) (Nat.le_of_ble_eq_true rfl) (by decide) (show Sp D 2 mX8_holding [.ref b, .int ((x)), .ref 71] h 0 0 (some (.int ((hdF 2 (nI t) ((x)) (bgV (nI (11)) tr))).1)) (fun h' => TR h' ((hdF 2 (nI t) ((x)) (bgV (nI (11)) tr))).2 ∧ FO 71 h h') from vo_holding_X8_8 D hb h97 hT ((x))) (fun h hP => ?_)
  obtain ⟨hT, hF1⟩ := hP
  have hF := hF.trans hF1
  have hb := (hF1.2 b (by omega) (by omega)).trans hb
  refine e_iconst (nI (2)) dX9_resting_12 (by decide) ?_
  refine e_imul dX9_resting_13 ?_
  exact e_iret dX9_resting_14 rfl (hp _ ⟨hT, hF⟩)
set_option maxRecDepth 20000 in
theorem vo_resting_X9_3 (D : En) {h : AH} {b t : Nat} {N : Nat → Int32} {tr : TS} (hb : h[b]? = some (.inr (3, tgF N t))) (h97 : 101 ≤ b) (hT : TR h tr) (x : Int32) : Sp D 4 mX9_resting [.ref b, .int x, .ref 71] h 0 0 (some (.int (rsB 3 (nI t) x tr).1)) (fun h' => TR h' (rsB 3 (nI t) x tr).2 ∧ FO 71 h h') := by
  obtain ⟨h00, hh00⟩ : ∃ z, z = h := ⟨_, rfl⟩
  have hF : FO 71 h00 h := by rw [hh00]; exact FO.rf
  intro post hp
  rw [← hh00] at hp
  show Ev D 4 mX9_resting 0 [some (.ref (b)), some (.int (x)), some (.ref (71))] [] h 0 0 post
  refine e_aload_n dX9_resting_0 rfl ?_
  refine e_bipush (nI (11)) dX9_resting_1 (by decide) ?_
  refine c_V1v (nc := 0) (ns := 0) (mc := 0) (ms := 0) (N := mX5_add) dX9_resting_3 lv_X9_33 mo_X5_add (hT.cn) (Nat.le_of_ble_eq_true rfl) (Nat.le_of_ble_eq_true rfl) (by decide) (k_tadd D hT (nI (11))) (fun h hP => ?_)
  obtain ⟨hT, hF1⟩ := hP
  have hF := hF.trans hF1
  have hb := (hF1.2 b (by omega) (by omega)).trans hb
  refine e_aload_n dX9_resting_6 rfl ?_
  refine e_iload_n dX9_resting_7 rfl ?_
  refine e_aload_n dX9_resting_8 rfl ?_
  refine c_O2i (nc := 0) (ns := 0) (mc := 0) (ms := 0) (x := yX9_holding) (owner := "EmptyLand$Thing") (C := RX3) (N := mX3_holding) dX9_resting_9 lo_X9_39_3 mo_X3_holding (Or.inl ⟨3, tgF N t, _, hb, rfl, rfl⟩) (Nat.le_of_ble_eq_true rfl) (Nat.le_of_ble_eq_true rfl) (by decide) (show Sp D 3 mX3_holding [.ref b, .int ((x)), .ref 71] h 0 0 (some (.int ((hdF 3 (nI t) ((x)) (bgV (nI (11)) tr))).1)) (fun h' => TR h' ((hdF 3 (nI t) ((x)) (bgV (nI (11)) tr))).2 ∧ FO 71 h h') from vo_holding_X3_3 D hb h97 hT ((x))) (fun h hP => ?_)
  obtain ⟨hT, hF1⟩ := hP
  have hF := hF.trans hF1
  have hb := (hF1.2 b (by omega) (by omega)).trans hb
  refine e_iconst (nI (2)) dX9_resting_12 (by decide) ?_
  refine e_imul dX9_resting_13 ?_
  exact e_iret dX9_resting_14 rfl (hp _ ⟨hT, hF⟩)
set_option maxRecDepth 20000 in
theorem vo_resting_X9_1 (D : En) {h : AH} {b t : Nat} {N : Nat → Int32} {tr : TS} (hb : h[b]? = some (.inr (1, tgF N t))) (h97 : 101 ≤ b) (hT : TR h tr) (x : Int32) : Sp D 2 mX9_resting [.ref b, .int x, .ref 71] h 0 0 (some (.int (rsB 4 (nI t) x tr).1)) (fun h' => TR h' (rsB 4 (nI t) x tr).2 ∧ FO 71 h h') := by
  obtain ⟨h00, hh00⟩ : ∃ z, z = h := ⟨_, rfl⟩
  have hF : FO 71 h00 h := by rw [hh00]; exact FO.rf
  intro post hp
  rw [← hh00] at hp
  show Ev D 2 mX9_resting 0 [some (.ref (b)), some (.int (x)), some (.ref (71))] [] h 0 0 post
  refine e_aload_n dX9_resting_0 rfl ?_
  refine e_bipush (nI (11)) dX9_resting_1 (by decide) ?_
  refine c_V1v (nc := 0) (ns := 0) (mc := 0) (ms := 0) (N := mX5_add) dX9_resting_3 lv_X9_33 mo_X5_add (hT.cn) (Nat.le_of_ble_eq_true rfl) (Nat.le_of_ble_eq_true rfl) (by decide) (k_tadd D hT (nI (11))) (fun h hP => ?_)
  obtain ⟨hT, hF1⟩ := hP
  have hF := hF.trans hF1
  have hb := (hF1.2 b (by omega) (by omega)).trans hb
  refine e_aload_n dX9_resting_6 rfl ?_
  refine e_iload_n dX9_resting_7 rfl ?_
  refine e_aload_n dX9_resting_8 rfl ?_
  refine c_O2i (nc := 0) (ns := 0) (mc := 0) (ms := 0) (x := yX9_holding) (owner := "EmptyLand$Thing") (C := RX1) (N := mX9_holding) dX9_resting_9 lo_X9_39_1 mo_X9_holding (Or.inl ⟨1, tgF N t, _, hb, rfl, rfl⟩) (Nat.le_of_ble_eq_true rfl) (Nat.le_of_ble_eq_true rfl) (by decide) (show Sp D 1 mX9_holding [.ref b, .int ((x)), .ref 71] h 0 0 (some (.int ((hdF 4 (nI t) ((x)) (bgV (nI (11)) tr))).1)) (fun h' => TR h' ((hdF 4 (nI t) ((x)) (bgV (nI (11)) tr))).2 ∧ FO 71 h h') from vo_holding_X9_1 D hb h97 hT ((x))) (fun h hP => ?_)
  obtain ⟨hT, hF1⟩ := hP
  have hF := hF.trans hF1
  have hb := (hF1.2 b (by omega) (by omega)).trans hb
  refine e_iconst (nI (2)) dX9_resting_12 (by decide) ?_
  refine e_imul dX9_resting_13 ?_
  exact e_iret dX9_resting_14 rfl (hp _ ⟨hT, hF⟩)
set_option maxRecDepth 20000 in
theorem vo_resting_X9_10 (D : En) {h : AH} {b t : Nat} {N : Nat → Int32} {tr : TS} (hb : h[b]? = some (.inr (10, tgF N t))) (h97 : 101 ≤ b) (hT : TR h tr) (x : Int32) : Sp D 3 mX9_resting [.ref b, .int x, .ref 71] h 0 0 (some (.int (rsB 5 (nI t) x tr).1)) (fun h' => TR h' (rsB 5 (nI t) x tr).2 ∧ FO 71 h h') := by
  obtain ⟨h00, hh00⟩ : ∃ z, z = h := ⟨_, rfl⟩
  have hF : FO 71 h00 h := by rw [hh00]; exact FO.rf
  intro post hp
  rw [← hh00] at hp
  show Ev D 3 mX9_resting 0 [some (.ref (b)), some (.int (x)), some (.ref (71))] [] h 0 0 post
  refine e_aload_n dX9_resting_0 rfl ?_
  refine e_bipush (nI (11)) dX9_resting_1 (by decide) ?_
  refine c_V1v (nc := 0) (ns := 0) (mc := 0) (ms := 0) (N := mX5_add) dX9_resting_3 lv_X9_33 mo_X5_add (hT.cn) (Nat.le_of_ble_eq_true rfl) (Nat.le_of_ble_eq_true rfl) (by decide) (k_tadd D hT (nI (11))) (fun h hP => ?_)
  obtain ⟨hT, hF1⟩ := hP
  have hF := hF.trans hF1
  have hb := (hF1.2 b (by omega) (by omega)).trans hb
  refine e_aload_n dX9_resting_6 rfl ?_
  refine e_iload_n dX9_resting_7 rfl ?_
  refine e_aload_n dX9_resting_8 rfl ?_
  refine c_O2i (nc := 0) (ns := 0) (mc := 0) (ms := 0) (x := yX9_holding) (owner := "EmptyLand$Thing") (C := RX10) (N := mX10_holding) dX9_resting_9 lo_X9_39_10 mo_X10_holding (Or.inl ⟨10, tgF N t, _, hb, rfl, rfl⟩) (Nat.le_of_ble_eq_true rfl) (Nat.le_of_ble_eq_true rfl) (by decide) (show Sp D 2 mX10_holding [.ref b, .int ((x)), .ref 71] h 0 0 (some (.int ((hdF 5 (nI t) ((x)) (bgV (nI (11)) tr))).1)) (fun h' => TR h' ((hdF 5 (nI t) ((x)) (bgV (nI (11)) tr))).2 ∧ FO 71 h h') from vo_holding_X10_10 D hb h97 hT ((x))) (fun h hP => ?_)
  obtain ⟨hT, hF1⟩ := hP
  have hF := hF.trans hF1
  have hb := (hF1.2 b (by omega) (by omega)).trans hb
  refine e_iconst (nI (2)) dX9_resting_12 (by decide) ?_
  refine e_imul dX9_resting_13 ?_
  exact e_iret dX9_resting_14 rfl (hp _ ⟨hT, hF⟩)
set_option maxRecDepth 20000 in
theorem vo_falling_X9_10 (D : En) {h : AH} {b t : Nat} {N : Nat → Int32} {tr : TS} (hb : h[b]? = some (.inr (10, tgF N t))) (h97 : 101 ≤ b) (hT : TR h tr) (x : Int32) : Sp D 1 mX9_falling [.ref b, .int x, .ref 71] h 0 0 (some (.int (flB (N (112 + 7 * t + 3)) x tr).1)) (fun h' => TR h' (flB (N (112 + 7 * t + 3)) x tr).2 ∧ FO 71 h h') := by
  obtain ⟨h00, hh00⟩ : ∃ z, z = h := ⟨_, rfl⟩
  have hF : FO 71 h00 h := by rw [hh00]; exact FO.rf
  intro post hp
  rw [← hh00] at hp
  show Ev D 1 mX9_falling 0 [some (.ref (b)), some (.int (x)), some (.ref (71))] [] h 0 0 post
  refine e_aload_n dX9_falling_0 rfl ?_
  refine e_bipush (nI (12)) dX9_falling_1 (by decide) ?_
  refine c_V1v (nc := 0) (ns := 0) (mc := 0) (ms := 0) (N := mX5_add) dX9_falling_3 lv_X9_33 mo_X5_add (hT.cn) (Nat.le_of_ble_eq_true rfl) (Nat.le_of_ble_eq_true rfl) (by decide) (k_tadd D hT (nI (12))) (fun h hP => ?_)
  obtain ⟨hT, hF1⟩ := hP
  have hF := hF.trans hF1
  have hb := (hF1.2 b (by omega) (by omega)).trans hb
  refine e_iload_n dX9_falling_6 rfl ?_
  refine e_aload_n dX9_falling_7 rfl ?_
  refine e_get dX9_falling_8 fl_X9_21_10 hb rfl ?_
  refine e_isub dX9_falling_11 ?_
  exact e_iret dX9_falling_12 rfl (hp _ ⟨hT, hF⟩)
set_option maxRecDepth 20000 in
theorem vo_resting_X7_10 (D : En) {h : AH} {b t : Nat} {N : Nat → Int32} {tr : TS} (hb : h[b]? = some (.inr (10, tgF N t))) (h97 : 101 ≤ b) (hT : TR h tr) (x : Int32) : Sp D 4 mX7_resting [.ref b, .int x, .ref 71] h 0 0 (some (.int (rsS 5 (nI t) (N (112 + 7 * t + 3)) x tr).1)) (fun h' => TR h' (rsS 5 (nI t) (N (112 + 7 * t + 3)) x tr).2 ∧ FO 71 h h') := by
  obtain ⟨h00, hh00⟩ : ∃ z, z = h := ⟨_, rfl⟩
  have hF : FO 71 h00 h := by rw [hh00]; exact FO.rf
  intro post hp
  rw [← hh00] at hp
  show Ev D 4 mX7_resting 0 [some (.ref (b)), some (.int (x)), some (.ref (71))] [] h 0 0 post
  refine e_aload_n dX7_resting_0 rfl ?_
  refine e_bipush (nI (20)) dX7_resting_1 (by decide) ?_
  refine c_V1v (nc := 0) (ns := 0) (mc := 0) (ms := 0) (N := mX5_add) dX7_resting_3 lv_X7_23 mo_X5_add (hT.cn) (Nat.le_of_ble_eq_true rfl) (Nat.le_of_ble_eq_true rfl) (by decide) (k_tadd D hT (nI (20))) (fun h hP => ?_)
  obtain ⟨hT, hF1⟩ := hP
  have hF := hF.trans hF1
  have hb := (hF1.2 b (by omega) (by omega)).trans hb
  refine e_aload_n dX7_resting_6 rfl ?_
  refine e_iload_n dX7_resting_7 rfl ?_
  refine e_aload_n dX7_resting_8 rfl ?_
  refine c_U2i (nc := 0) (ns := 0) (mc := 0) (ms := 0) (N := mX9_resting) dX7_resting_9 lu_X7_29 mo_X9_resting hb rfl (Nat.le_of_ble_eq_true rfl) (Nat.le_of_ble_eq_true rfl) (by decide) (vo_resting_X9_10 D hb h97 hT ((x))) (fun h hP => ?_)
  obtain ⟨hT, hF1⟩ := hP
  have hF := hF.trans hF1
  have hb := (hF1.2 b (by omega) (by omega)).trans hb
  refine e_aload_n dX7_resting_12 rfl ?_
  refine e_iconst (nI (1)) dX7_resting_13 (by decide) ?_
  refine e_aload_n dX7_resting_14 rfl ?_
  refine c_O2i (nc := 0) (ns := 0) (mc := 0) (ms := 0) (x := (⟨"EmptyLand$School", "falling", "(ILEmptyLand$Row;)I"⟩ : MethodName)) (owner := "EmptyLand$Thing") (C := RX10) (N := mX9_falling) dX7_resting_15 lo_X7_33_10 mo_X9_falling (Or.inl ⟨10, tgF N t, _, hb, rfl, rfl⟩) (Nat.le_of_ble_eq_true rfl) (Nat.le_of_ble_eq_true rfl) (by decide) (show Sp D 1 mX9_falling [.ref b, .int (nI (1)), .ref 71] h 0 0 (some (.int ((flF 5 (N (112 + 7 * t + 3)) (nI (1)) ((rsB 5 (nI t) ((x)) (bgV (nI (20)) tr)).2))).1)) (fun h' => TR h' ((flF 5 (N (112 + 7 * t + 3)) (nI (1)) ((rsB 5 (nI t) ((x)) (bgV (nI (20)) tr)).2))).2 ∧ FO 71 h h') from vo_falling_X9_10 D hb h97 hT (nI (1))) (fun h hP => ?_)
  obtain ⟨hT, hF1⟩ := hP
  have hF := hF.trans hF1
  have hb := (hF1.2 b (by omega) (by omega)).trans hb
  refine e_isub dX7_resting_18 ?_
  exact e_iret dX7_resting_19 rfl (hp _ ⟨hT, hF⟩)
set_option maxRecDepth 20000 in
theorem vo_resting_X10_10 (D : En) {h : AH} {b t : Nat} {N : Nat → Int32} {tr : TS} (hb : h[b]? = some (.inr (10, tgF N t))) (h97 : 101 ≤ b) (hT : TR h tr) (x : Int32) : Sp D 5 mX10_resting [.ref b, .int x, .ref 71] h 0 0 (some (.int (rsF 5 5 (nI t) (N (112 + 7 * t + 3)) x tr).1)) (fun h' => TR h' (rsF 5 5 (nI t) (N (112 + 7 * t + 3)) x tr).2 ∧ FO 71 h h') := by
  obtain ⟨h00, hh00⟩ : ∃ z, z = h := ⟨_, rfl⟩
  have hF : FO 71 h00 h := by rw [hh00]; exact FO.rf
  intro post hp
  rw [← hh00] at hp
  show Ev D 5 mX10_resting 0 [some (.ref (b)), some (.int (x)), some (.ref (71))] [] h 0 0 post
  refine e_aload_n dX10_resting_0 rfl ?_
  refine e_bipush (nI (61)) dX10_resting_1 (by decide) ?_
  refine c_V1v (nc := 0) (ns := 0) (mc := 0) (ms := 0) (N := mX5_add) dX10_resting_3 lv_X10_20 mo_X5_add (hT.cn) (Nat.le_of_ble_eq_true rfl) (Nat.le_of_ble_eq_true rfl) (by decide) (k_tadd D hT (nI (61))) (fun h hP => ?_)
  obtain ⟨hT, hF1⟩ := hP
  have hF := hF.trans hF1
  have hb := (hF1.2 b (by omega) (by omega)).trans hb
  refine e_aload_n dX10_resting_6 rfl ?_
  refine e_iload_n dX10_resting_7 rfl ?_
  refine e_aload_n dX10_resting_8 rfl ?_
  refine c_U2i (nc := 0) (ns := 0) (mc := 0) (ms := 0) (N := mX7_resting) dX10_resting_9 lu_X10_36 mo_X7_resting hb rfl (Nat.le_of_ble_eq_true rfl) (Nat.le_of_ble_eq_true rfl) (by decide) (vo_resting_X7_10 D hb h97 hT ((x))) (fun h hP => ?_)
  obtain ⟨hT, hF1⟩ := hP
  have hF := hF.trans hF1
  have hb := (hF1.2 b (by omega) (by omega)).trans hb
  refine e_iconst (nI (5)) dX10_resting_12 (by decide) ?_
  refine e_iadd dX10_resting_13 ?_
  exact e_iret dX10_resting_14 rfl (hp _ ⟨hT, hF⟩)
set_option maxRecDepth 20000 in
theorem vo_resting_X9_0 (D : En) {h : AH} {b t : Nat} {N : Nat → Int32} {tr : TS} (hb : h[b]? = some (.inr (0, tgF N t))) (h97 : 101 ≤ b) (hT : TR h tr) (x : Int32) : Sp D 2 mX9_resting [.ref b, .int x, .ref 71] h 0 0 (some (.int (rsB 6 (nI t) x tr).1)) (fun h' => TR h' (rsB 6 (nI t) x tr).2 ∧ FO 71 h h') := by
  obtain ⟨h00, hh00⟩ : ∃ z, z = h := ⟨_, rfl⟩
  have hF : FO 71 h00 h := by rw [hh00]; exact FO.rf
  intro post hp
  rw [← hh00] at hp
  show Ev D 2 mX9_resting 0 [some (.ref (b)), some (.int (x)), some (.ref (71))] [] h 0 0 post
  refine e_aload_n dX9_resting_0 rfl ?_
  refine e_bipush (nI (11)) dX9_resting_1 (by decide) ?_
  refine c_V1v (nc := 0) (ns := 0) (mc := 0) (ms := 0) (N := mX5_add) dX9_resting_3 lv_X9_33 mo_X5_add (hT.cn) (Nat.le_of_ble_eq_true rfl) (Nat.le_of_ble_eq_true rfl) (by decide) (k_tadd D hT (nI (11))) (fun h hP => ?_)
  obtain ⟨hT, hF1⟩ := hP
  have hF := hF.trans hF1
  have hb := (hF1.2 b (by omega) (by omega)).trans hb
  refine e_aload_n dX9_resting_6 rfl ?_
  refine e_iload_n dX9_resting_7 rfl ?_
  refine e_aload_n dX9_resting_8 rfl ?_
  refine c_O2i (nc := 0) (ns := 0) (mc := 0) (ms := 0) (x := yX9_holding) (owner := "EmptyLand$Thing") (C := RX0) (N := mX9_holding) dX9_resting_9 lo_X9_39_0 mo_X9_holding (Or.inl ⟨0, tgF N t, _, hb, rfl, rfl⟩) (Nat.le_of_ble_eq_true rfl) (Nat.le_of_ble_eq_true rfl) (by decide) (show Sp D 1 mX9_holding [.ref b, .int ((x)), .ref 71] h 0 0 (some (.int ((hdF 6 (nI t) ((x)) (bgV (nI (11)) tr))).1)) (fun h' => TR h' ((hdF 6 (nI t) ((x)) (bgV (nI (11)) tr))).2 ∧ FO 71 h h') from vo_holding_X9_0 D hb h97 hT ((x))) (fun h hP => ?_)
  obtain ⟨hT, hF1⟩ := hP
  have hF := hF.trans hF1
  have hb := (hF1.2 b (by omega) (by omega)).trans hb
  refine e_iconst (nI (2)) dX9_resting_12 (by decide) ?_
  refine e_imul dX9_resting_13 ?_
  exact e_iret dX9_resting_14 rfl (hp _ ⟨hT, hF⟩)
theorem vv_X11_294 {D : En} {d : Nat} {M : Mt} {pc : Nat} {ls : List (Option Value)} {st : List Value} {h : AH} {post : Option Value → AH → Prop} {b t : Nat} {N : Nat → Int32} {tr : TS} {x : Int32} (hM : M.1.cls = RX11) (hd : decode M.2.1 pc = .ok (.invokevirtual 294, 3)) (hb : ThingAt h b t N) (hk : kdN N t < 7) (hT : TR h tr) (hr : (st.map fun v => v.category).sum ≤ 8) (hdd : 5 < d) (kk : ∀ h', TR h' (vcF 1 (kdN N t) (kdN N t) (nI t) (N (112 + 7 * t + 3)) x tr).2 → FO 71 h h' → Ev D d M (pc + 3) ls (.int (vcF 1 (kdN N t) (kdN N t) (nI t) (N (112 + 7 * t + 3)) x tr).1 :: st) h' 0 0 post) : Ev D d M pc ls (.ref 71 :: .int x :: .ref b :: st) h 0 0 post := by
  obtain ⟨h97, hb⟩ := hb
  rcases (show kdN N t = 0 ∨ kdN N t = 1 ∨ kdN N t = 2 ∨ kdN N t = 3 ∨ kdN N t = 4 ∨ kdN N t = 5 ∨ kdN N t = 6 by omega) with e9 | e9 | e9 | e9 | e9 | e9 | e9
  · rw [e9] at hb kk
    exact c_V2i (nc := 0) (ns := 0) (mc := 0) (ms := 0) (N := mX9_resting) hd (by rw [hM]; exact lv_X11_294) mo_X9_resting (Or.inl ⟨9, tgF N t, _, hb, rfl, rfl⟩) hr (Nat.le_of_ble_eq_true rfl) (Nat.lt_of_le_of_lt (by decide) hdd) (vo_resting_X9_9 D hb h97 hT x) (fun h2 hP => kk h2 hP.1 hP.2)
  · rw [e9] at hb kk
    exact c_O2i (nc := 0) (ns := 0) (mc := 0) (ms := 0) (x := yX9_resting) (owner := "EmptyLand$Thing") (C := RX7) (N := mX7_resting) hd (by rw [hM]; exact lo_X11_294_7) mo_X7_resting (Or.inl ⟨7, tgF N t, _, hb, rfl, rfl⟩) hr (Nat.le_of_ble_eq_true rfl) (Nat.lt_of_le_of_lt (by decide) hdd) (vo_resting_X7_7 D hb h97 hT x) (fun h2 hP => kk h2 hP.1 hP.2)
  · rw [e9] at hb kk
    exact c_O2i (nc := 0) (ns := 0) (mc := 0) (ms := 0) (x := yX9_resting) (owner := "EmptyLand$Thing") (C := RX8) (N := mX9_resting) hd (by rw [hM]; exact lo_X11_294_8) mo_X9_resting (Or.inl ⟨8, tgF N t, _, hb, rfl, rfl⟩) hr (Nat.le_of_ble_eq_true rfl) (Nat.lt_of_le_of_lt (by decide) hdd) (vo_resting_X9_8 D hb h97 hT x) (fun h2 hP => kk h2 hP.1 hP.2)
  · rw [e9] at hb kk
    exact c_O2i (nc := 0) (ns := 0) (mc := 0) (ms := 0) (x := yX9_resting) (owner := "EmptyLand$Thing") (C := RX3) (N := mX9_resting) hd (by rw [hM]; exact lo_X11_294_3) mo_X9_resting (Or.inl ⟨3, tgF N t, _, hb, rfl, rfl⟩) hr (Nat.le_of_ble_eq_true rfl) (Nat.lt_of_le_of_lt (by decide) hdd) (vo_resting_X9_3 D hb h97 hT x) (fun h2 hP => kk h2 hP.1 hP.2)
  · rw [e9] at hb kk
    exact c_O2i (nc := 0) (ns := 0) (mc := 0) (ms := 0) (x := yX9_resting) (owner := "EmptyLand$Thing") (C := RX1) (N := mX9_resting) hd (by rw [hM]; exact lo_X11_294_1) mo_X9_resting (Or.inl ⟨1, tgF N t, _, hb, rfl, rfl⟩) hr (Nat.le_of_ble_eq_true rfl) (Nat.lt_of_le_of_lt (by decide) hdd) (vo_resting_X9_1 D hb h97 hT x) (fun h2 hP => kk h2 hP.1 hP.2)
  · rw [e9] at hb kk
    exact c_O2i (nc := 0) (ns := 0) (mc := 0) (ms := 0) (x := yX9_resting) (owner := "EmptyLand$Thing") (C := RX10) (N := mX10_resting) hd (by rw [hM]; exact lo_X11_294_10) mo_X10_resting (Or.inl ⟨10, tgF N t, _, hb, rfl, rfl⟩) hr (Nat.le_of_ble_eq_true rfl) (Nat.lt_of_le_of_lt (by decide) hdd) (vo_resting_X10_10 D hb h97 hT x) (fun h2 hP => kk h2 hP.1 hP.2)
  · rw [e9] at hb kk
    exact c_O2i (nc := 0) (ns := 0) (mc := 0) (ms := 0) (x := yX9_resting) (owner := "EmptyLand$Thing") (C := RX0) (N := mX9_resting) hd (by rw [hM]; exact lo_X11_294_0) mo_X9_resting (Or.inl ⟨0, tgF N t, _, hb, rfl, rfl⟩) hr (Nat.le_of_ble_eq_true rfl) (Nat.lt_of_le_of_lt (by decide) hdd) (vo_resting_X9_0 D hb h97 hT x) (fun h2 hP => kk h2 hP.1 hP.2)
set_option maxRecDepth 20000 in
theorem vo_falling_X9_9 (D : En) {h : AH} {b t : Nat} {N : Nat → Int32} {tr : TS} (hb : h[b]? = some (.inr (9, tgF N t))) (h97 : 101 ≤ b) (hT : TR h tr) (x : Int32) : Sp D 1 mX9_falling [.ref b, .int x, .ref 71] h 0 0 (some (.int (flB (N (112 + 7 * t + 3)) x tr).1)) (fun h' => TR h' (flB (N (112 + 7 * t + 3)) x tr).2 ∧ FO 71 h h') := by
  obtain ⟨h00, hh00⟩ : ∃ z, z = h := ⟨_, rfl⟩
  have hF : FO 71 h00 h := by rw [hh00]; exact FO.rf
  intro post hp
  rw [← hh00] at hp
  show Ev D 1 mX9_falling 0 [some (.ref (b)), some (.int (x)), some (.ref (71))] [] h 0 0 post
  refine e_aload_n dX9_falling_0 rfl ?_
  refine e_bipush (nI (12)) dX9_falling_1 (by decide) ?_
  refine c_V1v (nc := 0) (ns := 0) (mc := 0) (ms := 0) (N := mX5_add) dX9_falling_3 lv_X9_33 mo_X5_add (hT.cn) (Nat.le_of_ble_eq_true rfl) (Nat.le_of_ble_eq_true rfl) (by decide) (k_tadd D hT (nI (12))) (fun h hP => ?_)
  obtain ⟨hT, hF1⟩ := hP
  have hF := hF.trans hF1
  have hb := (hF1.2 b (by omega) (by omega)).trans hb
  refine e_iload_n dX9_falling_6 rfl ?_
  refine e_aload_n dX9_falling_7 rfl ?_
  refine e_get dX9_falling_8 fl_X9_21_9 hb rfl ?_
  refine e_isub dX9_falling_11 ?_
  exact e_iret dX9_falling_12 rfl (hp _ ⟨hT, hF⟩)
set_option maxRecDepth 20000 in
theorem vo_falling_X9_8 (D : En) {h : AH} {b t : Nat} {N : Nat → Int32} {tr : TS} (hb : h[b]? = some (.inr (8, tgF N t))) (h97 : 101 ≤ b) (hT : TR h tr) (x : Int32) : Sp D 1 mX9_falling [.ref b, .int x, .ref 71] h 0 0 (some (.int (flB (N (112 + 7 * t + 3)) x tr).1)) (fun h' => TR h' (flB (N (112 + 7 * t + 3)) x tr).2 ∧ FO 71 h h') := by
  obtain ⟨h00, hh00⟩ : ∃ z, z = h := ⟨_, rfl⟩
  have hF : FO 71 h00 h := by rw [hh00]; exact FO.rf
  intro post hp
  rw [← hh00] at hp
  show Ev D 1 mX9_falling 0 [some (.ref (b)), some (.int (x)), some (.ref (71))] [] h 0 0 post
  refine e_aload_n dX9_falling_0 rfl ?_
  refine e_bipush (nI (12)) dX9_falling_1 (by decide) ?_
  refine c_V1v (nc := 0) (ns := 0) (mc := 0) (ms := 0) (N := mX5_add) dX9_falling_3 lv_X9_33 mo_X5_add (hT.cn) (Nat.le_of_ble_eq_true rfl) (Nat.le_of_ble_eq_true rfl) (by decide) (k_tadd D hT (nI (12))) (fun h hP => ?_)
  obtain ⟨hT, hF1⟩ := hP
  have hF := hF.trans hF1
  have hb := (hF1.2 b (by omega) (by omega)).trans hb
  refine e_iload_n dX9_falling_6 rfl ?_
  refine e_aload_n dX9_falling_7 rfl ?_
  refine e_get dX9_falling_8 fl_X9_21_8 hb rfl ?_
  refine e_isub dX9_falling_11 ?_
  exact e_iret dX9_falling_12 rfl (hp _ ⟨hT, hF⟩)
set_option maxRecDepth 20000 in
theorem vo_falling_X9_3 (D : En) {h : AH} {b t : Nat} {N : Nat → Int32} {tr : TS} (hb : h[b]? = some (.inr (3, tgF N t))) (h97 : 101 ≤ b) (hT : TR h tr) (x : Int32) : Sp D 1 mX9_falling [.ref b, .int x, .ref 71] h 0 0 (some (.int (flB (N (112 + 7 * t + 3)) x tr).1)) (fun h' => TR h' (flB (N (112 + 7 * t + 3)) x tr).2 ∧ FO 71 h h') := by
  obtain ⟨h00, hh00⟩ : ∃ z, z = h := ⟨_, rfl⟩
  have hF : FO 71 h00 h := by rw [hh00]; exact FO.rf
  intro post hp
  rw [← hh00] at hp
  show Ev D 1 mX9_falling 0 [some (.ref (b)), some (.int (x)), some (.ref (71))] [] h 0 0 post
  refine e_aload_n dX9_falling_0 rfl ?_
  refine e_bipush (nI (12)) dX9_falling_1 (by decide) ?_
  refine c_V1v (nc := 0) (ns := 0) (mc := 0) (ms := 0) (N := mX5_add) dX9_falling_3 lv_X9_33 mo_X5_add (hT.cn) (Nat.le_of_ble_eq_true rfl) (Nat.le_of_ble_eq_true rfl) (by decide) (k_tadd D hT (nI (12))) (fun h hP => ?_)
  obtain ⟨hT, hF1⟩ := hP
  have hF := hF.trans hF1
  have hb := (hF1.2 b (by omega) (by omega)).trans hb
  refine e_iload_n dX9_falling_6 rfl ?_
  refine e_aload_n dX9_falling_7 rfl ?_
  refine e_get dX9_falling_8 fl_X9_21_3 hb rfl ?_
  refine e_isub dX9_falling_11 ?_
  exact e_iret dX9_falling_12 rfl (hp _ ⟨hT, hF⟩)
set_option maxRecDepth 20000 in
theorem vo_falling_X3_3 (D : En) {h : AH} {b t : Nat} {N : Nat → Int32} {tr : TS} (hb : h[b]? = some (.inr (3, tgF N t))) (h97 : 101 ≤ b) (hT : TR h tr) (x : Int32) : Sp D 2 mX3_falling [.ref b, .int x, .ref 71] h 0 0 (some (.int (flF 3 (N (112 + 7 * t + 3)) x tr).1)) (fun h' => TR h' (flF 3 (N (112 + 7 * t + 3)) x tr).2 ∧ FO 71 h h') := by
  obtain ⟨h00, hh00⟩ : ∃ z, z = h := ⟨_, rfl⟩
  have hF : FO 71 h00 h := by rw [hh00]; exact FO.rf
  intro post hp
  rw [← hh00] at hp
  show Ev D 2 mX3_falling 0 [some (.ref (b)), some (.int (x)), some (.ref (71))] [] h 0 0 post
  refine e_aload_n dX3_falling_0 rfl ?_
  refine e_bipush (nI (40)) dX3_falling_1 (by decide) ?_
  refine c_V1v (nc := 0) (ns := 0) (mc := 0) (ms := 0) (N := mX5_add) dX3_falling_3 lv_X3_27 mo_X5_add (hT.cn) (Nat.le_of_ble_eq_true rfl) (Nat.le_of_ble_eq_true rfl) (by decide) (k_tadd D hT (nI (40))) (fun h hP => ?_)
  obtain ⟨hT, hF1⟩ := hP
  have hF := hF.trans hF1
  have hb := (hF1.2 b (by omega) (by omega)).trans hb
  refine e_aload_n dX3_falling_6 rfl ?_
  refine e_iload_n dX3_falling_7 rfl ?_
  refine e_aload_n dX3_falling_8 rfl ?_
  refine c_W2i (nc := 0) (ns := 0) (mc := 0) (ms := 0) (N := mX9_falling) dX3_falling_9 lw_X3_33 mo_X9_falling hb rfl (Nat.le_of_ble_eq_true rfl) (Nat.le_of_ble_eq_true rfl) (by decide) (vo_falling_X9_3 D hb h97 hT ((x))) (fun h hP => ?_)
  obtain ⟨hT, hF1⟩ := hP
  have hF := hF.trans hF1
  have hb := (hF1.2 b (by omega) (by omega)).trans hb
  refine e_ineg dX3_falling_12 ?_
  exact e_iret dX3_falling_13 rfl (hp _ ⟨hT, hF⟩)
set_option maxRecDepth 20000 in
theorem vo_falling_X9_1 (D : En) {h : AH} {b t : Nat} {N : Nat → Int32} {tr : TS} (hb : h[b]? = some (.inr (1, tgF N t))) (h97 : 101 ≤ b) (hT : TR h tr) (x : Int32) : Sp D 1 mX9_falling [.ref b, .int x, .ref 71] h 0 0 (some (.int (flB (N (112 + 7 * t + 3)) x tr).1)) (fun h' => TR h' (flB (N (112 + 7 * t + 3)) x tr).2 ∧ FO 71 h h') := by
  obtain ⟨h00, hh00⟩ : ∃ z, z = h := ⟨_, rfl⟩
  have hF : FO 71 h00 h := by rw [hh00]; exact FO.rf
  intro post hp
  rw [← hh00] at hp
  show Ev D 1 mX9_falling 0 [some (.ref (b)), some (.int (x)), some (.ref (71))] [] h 0 0 post
  refine e_aload_n dX9_falling_0 rfl ?_
  refine e_bipush (nI (12)) dX9_falling_1 (by decide) ?_
  refine c_V1v (nc := 0) (ns := 0) (mc := 0) (ms := 0) (N := mX5_add) dX9_falling_3 lv_X9_33 mo_X5_add (hT.cn) (Nat.le_of_ble_eq_true rfl) (Nat.le_of_ble_eq_true rfl) (by decide) (k_tadd D hT (nI (12))) (fun h hP => ?_)
  obtain ⟨hT, hF1⟩ := hP
  have hF := hF.trans hF1
  have hb := (hF1.2 b (by omega) (by omega)).trans hb
  refine e_iload_n dX9_falling_6 rfl ?_
  refine e_aload_n dX9_falling_7 rfl ?_
  refine e_get dX9_falling_8 fl_X9_21_1 hb rfl ?_
  refine e_isub dX9_falling_11 ?_
  exact e_iret dX9_falling_12 rfl (hp _ ⟨hT, hF⟩)
set_option maxRecDepth 20000 in
theorem vo_falling_X9_0 (D : En) {h : AH} {b t : Nat} {N : Nat → Int32} {tr : TS} (hb : h[b]? = some (.inr (0, tgF N t))) (h97 : 101 ≤ b) (hT : TR h tr) (x : Int32) : Sp D 1 mX9_falling [.ref b, .int x, .ref 71] h 0 0 (some (.int (flB (N (112 + 7 * t + 3)) x tr).1)) (fun h' => TR h' (flB (N (112 + 7 * t + 3)) x tr).2 ∧ FO 71 h h') := by
  obtain ⟨h00, hh00⟩ : ∃ z, z = h := ⟨_, rfl⟩
  have hF : FO 71 h00 h := by rw [hh00]; exact FO.rf
  intro post hp
  rw [← hh00] at hp
  show Ev D 1 mX9_falling 0 [some (.ref (b)), some (.int (x)), some (.ref (71))] [] h 0 0 post
  refine e_aload_n dX9_falling_0 rfl ?_
  refine e_bipush (nI (12)) dX9_falling_1 (by decide) ?_
  refine c_V1v (nc := 0) (ns := 0) (mc := 0) (ms := 0) (N := mX5_add) dX9_falling_3 lv_X9_33 mo_X5_add (hT.cn) (Nat.le_of_ble_eq_true rfl) (Nat.le_of_ble_eq_true rfl) (by decide) (k_tadd D hT (nI (12))) (fun h hP => ?_)
  obtain ⟨hT, hF1⟩ := hP
  have hF := hF.trans hF1
  have hb := (hF1.2 b (by omega) (by omega)).trans hb
  refine e_iload_n dX9_falling_6 rfl ?_
  refine e_aload_n dX9_falling_7 rfl ?_
  refine e_get dX9_falling_8 fl_X9_21_0 hb rfl ?_
  refine e_isub dX9_falling_11 ?_
  exact e_iret dX9_falling_12 rfl (hp _ ⟨hT, hF⟩)
theorem vv_X11_297 {D : En} {d : Nat} {M : Mt} {pc : Nat} {ls : List (Option Value)} {st : List Value} {h : AH} {post : Option Value → AH → Prop} {b t : Nat} {N : Nat → Int32} {tr : TS} {x : Int32} (hM : M.1.cls = RX11) (hd : decode M.2.1 pc = .ok (.invokevirtual 297, 3)) (hb : ThingAt h b t N) (hk : kdN N t < 7) (hT : TR h tr) (hr : (st.map fun v => v.category).sum ≤ 8) (hdd : 2 < d) (kk : ∀ h', TR h' (vcF 2 (kdN N t) (kdN N t) (nI t) (N (112 + 7 * t + 3)) x tr).2 → FO 71 h h' → Ev D d M (pc + 3) ls (.int (vcF 2 (kdN N t) (kdN N t) (nI t) (N (112 + 7 * t + 3)) x tr).1 :: st) h' 0 0 post) : Ev D d M pc ls (.ref 71 :: .int x :: .ref b :: st) h 0 0 post := by
  obtain ⟨h97, hb⟩ := hb
  rcases (show kdN N t = 0 ∨ kdN N t = 1 ∨ kdN N t = 2 ∨ kdN N t = 3 ∨ kdN N t = 4 ∨ kdN N t = 5 ∨ kdN N t = 6 by omega) with e9 | e9 | e9 | e9 | e9 | e9 | e9
  · rw [e9] at hb kk
    exact c_V2i (nc := 0) (ns := 0) (mc := 0) (ms := 0) (N := mX9_falling) hd (by rw [hM]; exact lv_X11_297) mo_X9_falling (Or.inl ⟨9, tgF N t, _, hb, rfl, rfl⟩) hr (Nat.le_of_ble_eq_true rfl) (Nat.lt_of_le_of_lt (by decide) hdd) (vo_falling_X9_9 D hb h97 hT x) (fun h2 hP => kk h2 hP.1 hP.2)
  · rw [e9] at hb kk
    exact c_O2i (nc := 0) (ns := 0) (mc := 0) (ms := 0) (x := yX9_falling) (owner := "EmptyLand$Thing") (C := RX7) (N := mX9_falling) hd (by rw [hM]; exact lo_X11_297_7) mo_X9_falling (Or.inl ⟨7, tgF N t, _, hb, rfl, rfl⟩) hr (Nat.le_of_ble_eq_true rfl) (Nat.lt_of_le_of_lt (by decide) hdd) (vo_falling_X9_7 D hb h97 hT x) (fun h2 hP => kk h2 hP.1 hP.2)
  · rw [e9] at hb kk
    exact c_O2i (nc := 0) (ns := 0) (mc := 0) (ms := 0) (x := yX9_falling) (owner := "EmptyLand$Thing") (C := RX8) (N := mX9_falling) hd (by rw [hM]; exact lo_X11_297_8) mo_X9_falling (Or.inl ⟨8, tgF N t, _, hb, rfl, rfl⟩) hr (Nat.le_of_ble_eq_true rfl) (Nat.lt_of_le_of_lt (by decide) hdd) (vo_falling_X9_8 D hb h97 hT x) (fun h2 hP => kk h2 hP.1 hP.2)
  · rw [e9] at hb kk
    exact c_O2i (nc := 0) (ns := 0) (mc := 0) (ms := 0) (x := yX9_falling) (owner := "EmptyLand$Thing") (C := RX3) (N := mX3_falling) hd (by rw [hM]; exact lo_X11_297_3) mo_X3_falling (Or.inl ⟨3, tgF N t, _, hb, rfl, rfl⟩) hr (Nat.le_of_ble_eq_true rfl) (Nat.lt_of_le_of_lt (by decide) hdd) (vo_falling_X3_3 D hb h97 hT x) (fun h2 hP => kk h2 hP.1 hP.2)
  · rw [e9] at hb kk
    exact c_O2i (nc := 0) (ns := 0) (mc := 0) (ms := 0) (x := yX9_falling) (owner := "EmptyLand$Thing") (C := RX1) (N := mX9_falling) hd (by rw [hM]; exact lo_X11_297_1) mo_X9_falling (Or.inl ⟨1, tgF N t, _, hb, rfl, rfl⟩) hr (Nat.le_of_ble_eq_true rfl) (Nat.lt_of_le_of_lt (by decide) hdd) (vo_falling_X9_1 D hb h97 hT x) (fun h2 hP => kk h2 hP.1 hP.2)
  · rw [e9] at hb kk
    exact c_O2i (nc := 0) (ns := 0) (mc := 0) (ms := 0) (x := yX9_falling) (owner := "EmptyLand$Thing") (C := RX10) (N := mX9_falling) hd (by rw [hM]; exact lo_X11_297_10) mo_X9_falling (Or.inl ⟨10, tgF N t, _, hb, rfl, rfl⟩) hr (Nat.le_of_ble_eq_true rfl) (Nat.lt_of_le_of_lt (by decide) hdd) (vo_falling_X9_10 D hb h97 hT x) (fun h2 hP => kk h2 hP.1 hP.2)
  · rw [e9] at hb kk
    exact c_O2i (nc := 0) (ns := 0) (mc := 0) (ms := 0) (x := yX9_falling) (owner := "EmptyLand$Thing") (C := RX0) (N := mX9_falling) hd (by rw [hM]; exact lo_X11_297_0) mo_X9_falling (Or.inl ⟨0, tgF N t, _, hb, rfl, rfl⟩) hr (Nat.le_of_ble_eq_true rfl) (Nat.lt_of_le_of_lt (by decide) hdd) (vo_falling_X9_0 D hb h97 hT x) (fun h2 hP => kk h2 hP.1 hP.2)
set_option maxRecDepth 20000 in
theorem vo_telling_X9_9 (D : En) {h : AH} {b t : Nat} {N : Nat → Int32} {tr : TS} (hb : h[b]? = some (.inr (9, tgF N t))) (h97 : 101 ≤ b) (hT : TR h tr) (x : Int32) : Sp D 3 mX9_telling [.ref b, .int x, .ref 71] h 0 0 (some (.int (tlB 0 (nI t) (N (112 + 7 * t + 3)) x tr).1)) (fun h' => TR h' (tlB 0 (nI t) (N (112 + 7 * t + 3)) x tr).2 ∧ FO 71 h h') := by
  obtain ⟨h00, hh00⟩ : ∃ z, z = h := ⟨_, rfl⟩
  have hF : FO 71 h00 h := by rw [hh00]; exact FO.rf
  intro post hp
  rw [← hh00] at hp
  show Ev D 3 mX9_telling 0 [some (.ref (b)), some (.int (x)), some (.ref (71))] [] h 0 0 post
  refine e_aload_n dX9_telling_0 rfl ?_
  refine e_bipush (nI (13)) dX9_telling_1 (by decide) ?_
  refine c_V1v (nc := 0) (ns := 0) (mc := 0) (ms := 0) (N := mX5_add) dX9_telling_3 lv_X9_33 mo_X5_add (hT.cn) (Nat.le_of_ble_eq_true rfl) (Nat.le_of_ble_eq_true rfl) (by decide) (k_tadd D hT (nI (13))) (fun h hP => ?_)
  obtain ⟨hT, hF1⟩ := hP
  have hF := hF.trans hF1
  have hb := (hF1.2 b (by omega) (by omega)).trans hb
  refine e_aload_n dX9_telling_6 rfl ?_
  refine e_iload_n dX9_telling_7 rfl ?_
  refine e_aload_n dX9_telling_8 rfl ?_
  refine c_V2i (nc := 0) (ns := 0) (mc := 0) (ms := 0) (N := mX9_resting) dX9_telling_9 lv_X9_43 mo_X9_resting (Or.inl ⟨9, tgF N t, _, hb, rfl, rfl⟩) (Nat.le_of_ble_eq_true rfl) (Nat.le_of_ble_eq_true rfl) (by decide) (show Sp D 2 mX9_resting [.ref b, .int ((x)), .ref 71] h 0 0 (some (.int ((rsF 0 0 (nI t) (N (112 + 7 * t + 3)) ((x)) (bgV (nI (13)) tr))).1)) (fun h' => TR h' ((rsF 0 0 (nI t) (N (112 + 7 * t + 3)) ((x)) (bgV (nI (13)) tr))).2 ∧ FO 71 h h') from vo_resting_X9_9 D hb h97 hT ((x))) (fun h hP => ?_)
  obtain ⟨hT, hF1⟩ := hP
  have hF := hF.trans hF1
  have hb := (hF1.2 b (by omega) (by omega)).trans hb
  refine e_aload_n dX9_telling_12 rfl ?_
  refine e_iload_n dX9_telling_13 rfl ?_
  refine e_aload_n dX9_telling_14 rfl ?_
  refine c_V2i (nc := 0) (ns := 0) (mc := 0) (ms := 0) (N := mX9_falling) dX9_telling_15 lv_X9_46 mo_X9_falling (Or.inl ⟨9, tgF N t, _, hb, rfl, rfl⟩) (Nat.le_of_ble_eq_true rfl) (Nat.le_of_ble_eq_true rfl) (by decide) (show Sp D 1 mX9_falling [.ref b, .int ((x)), .ref 71] h 0 0 (some (.int ((flF 0 (N (112 + 7 * t + 3)) ((x)) ((rsF 0 0 (nI t) (N (112 + 7 * t + 3)) ((x)) (bgV (nI (13)) tr)).2))).1)) (fun h' => TR h' ((flF 0 (N (112 + 7 * t + 3)) ((x)) ((rsF 0 0 (nI t) (N (112 + 7 * t + 3)) ((x)) (bgV (nI (13)) tr)).2))).2 ∧ FO 71 h h') from vo_falling_X9_9 D hb h97 hT ((x))) (fun h hP => ?_)
  obtain ⟨hT, hF1⟩ := hP
  have hF := hF.trans hF1
  have hb := (hF1.2 b (by omega) (by omega)).trans hb
  refine e_ixor dX9_telling_18 ?_
  exact e_iret dX9_telling_19 rfl (hp _ ⟨hT, hF⟩)
set_option maxRecDepth 20000 in
theorem vo_telling_X9_7 (D : En) {h : AH} {b t : Nat} {N : Nat → Int32} {tr : TS} (hb : h[b]? = some (.inr (7, tgF N t))) (h97 : 101 ≤ b) (hT : TR h tr) (x : Int32) : Sp D 4 mX9_telling [.ref b, .int x, .ref 71] h 0 0 (some (.int (tlB 1 (nI t) (N (112 + 7 * t + 3)) x tr).1)) (fun h' => TR h' (tlB 1 (nI t) (N (112 + 7 * t + 3)) x tr).2 ∧ FO 71 h h') := by
  obtain ⟨h00, hh00⟩ : ∃ z, z = h := ⟨_, rfl⟩
  have hF : FO 71 h00 h := by rw [hh00]; exact FO.rf
  intro post hp
  rw [← hh00] at hp
  show Ev D 4 mX9_telling 0 [some (.ref (b)), some (.int (x)), some (.ref (71))] [] h 0 0 post
  refine e_aload_n dX9_telling_0 rfl ?_
  refine e_bipush (nI (13)) dX9_telling_1 (by decide) ?_
  refine c_V1v (nc := 0) (ns := 0) (mc := 0) (ms := 0) (N := mX5_add) dX9_telling_3 lv_X9_33 mo_X5_add (hT.cn) (Nat.le_of_ble_eq_true rfl) (Nat.le_of_ble_eq_true rfl) (by decide) (k_tadd D hT (nI (13))) (fun h hP => ?_)
  obtain ⟨hT, hF1⟩ := hP
  have hF := hF.trans hF1
  have hb := (hF1.2 b (by omega) (by omega)).trans hb
  refine e_aload_n dX9_telling_6 rfl ?_
  refine e_iload_n dX9_telling_7 rfl ?_
  refine e_aload_n dX9_telling_8 rfl ?_
  refine c_O2i (nc := 0) (ns := 0) (mc := 0) (ms := 0) (x := yX9_resting) (owner := "EmptyLand$Thing") (C := RX7) (N := mX7_resting) dX9_telling_9 lo_X9_43_7 mo_X7_resting (Or.inl ⟨7, tgF N t, _, hb, rfl, rfl⟩) (Nat.le_of_ble_eq_true rfl) (Nat.le_of_ble_eq_true rfl) (by decide) (show Sp D 3 mX7_resting [.ref b, .int ((x)), .ref 71] h 0 0 (some (.int ((rsF 1 1 (nI t) (N (112 + 7 * t + 3)) ((x)) (bgV (nI (13)) tr))).1)) (fun h' => TR h' ((rsF 1 1 (nI t) (N (112 + 7 * t + 3)) ((x)) (bgV (nI (13)) tr))).2 ∧ FO 71 h h') from vo_resting_X7_7 D hb h97 hT ((x))) (fun h hP => ?_)
  obtain ⟨hT, hF1⟩ := hP
  have hF := hF.trans hF1
  have hb := (hF1.2 b (by omega) (by omega)).trans hb
  refine e_aload_n dX9_telling_12 rfl ?_
  refine e_iload_n dX9_telling_13 rfl ?_
  refine e_aload_n dX9_telling_14 rfl ?_
  refine c_O2i (nc := 0) (ns := 0) (mc := 0) (ms := 0) (x := yX9_falling) (owner := "EmptyLand$Thing") (C := RX7) (N := mX9_falling) dX9_telling_15 lo_X9_46_7 mo_X9_falling (Or.inl ⟨7, tgF N t, _, hb, rfl, rfl⟩) (Nat.le_of_ble_eq_true rfl) (Nat.le_of_ble_eq_true rfl) (by decide) (show Sp D 1 mX9_falling [.ref b, .int ((x)), .ref 71] h 0 0 (some (.int ((flF 1 (N (112 + 7 * t + 3)) ((x)) ((rsF 1 1 (nI t) (N (112 + 7 * t + 3)) ((x)) (bgV (nI (13)) tr)).2))).1)) (fun h' => TR h' ((flF 1 (N (112 + 7 * t + 3)) ((x)) ((rsF 1 1 (nI t) (N (112 + 7 * t + 3)) ((x)) (bgV (nI (13)) tr)).2))).2 ∧ FO 71 h h') from vo_falling_X9_7 D hb h97 hT ((x))) (fun h hP => ?_)
  obtain ⟨hT, hF1⟩ := hP
  have hF := hF.trans hF1
  have hb := (hF1.2 b (by omega) (by omega)).trans hb
  refine e_ixor dX9_telling_18 ?_
  exact e_iret dX9_telling_19 rfl (hp _ ⟨hT, hF⟩)
set_option maxRecDepth 20000 in
theorem vo_telling_X9_8 (D : En) {h : AH} {b t : Nat} {N : Nat → Int32} {tr : TS} (hb : h[b]? = some (.inr (8, tgF N t))) (h97 : 101 ≤ b) (hT : TR h tr) (x : Int32) : Sp D 4 mX9_telling [.ref b, .int x, .ref 71] h 0 0 (some (.int (tlB 2 (nI t) (N (112 + 7 * t + 3)) x tr).1)) (fun h' => TR h' (tlB 2 (nI t) (N (112 + 7 * t + 3)) x tr).2 ∧ FO 71 h h') := by
  obtain ⟨h00, hh00⟩ : ∃ z, z = h := ⟨_, rfl⟩
  have hF : FO 71 h00 h := by rw [hh00]; exact FO.rf
  intro post hp
  rw [← hh00] at hp
  show Ev D 4 mX9_telling 0 [some (.ref (b)), some (.int (x)), some (.ref (71))] [] h 0 0 post
  refine e_aload_n dX9_telling_0 rfl ?_
  refine e_bipush (nI (13)) dX9_telling_1 (by decide) ?_
  refine c_V1v (nc := 0) (ns := 0) (mc := 0) (ms := 0) (N := mX5_add) dX9_telling_3 lv_X9_33 mo_X5_add (hT.cn) (Nat.le_of_ble_eq_true rfl) (Nat.le_of_ble_eq_true rfl) (by decide) (k_tadd D hT (nI (13))) (fun h hP => ?_)
  obtain ⟨hT, hF1⟩ := hP
  have hF := hF.trans hF1
  have hb := (hF1.2 b (by omega) (by omega)).trans hb
  refine e_aload_n dX9_telling_6 rfl ?_
  refine e_iload_n dX9_telling_7 rfl ?_
  refine e_aload_n dX9_telling_8 rfl ?_
  refine c_O2i (nc := 0) (ns := 0) (mc := 0) (ms := 0) (x := yX9_resting) (owner := "EmptyLand$Thing") (C := RX8) (N := mX9_resting) dX9_telling_9 lo_X9_43_8 mo_X9_resting (Or.inl ⟨8, tgF N t, _, hb, rfl, rfl⟩) (Nat.le_of_ble_eq_true rfl) (Nat.le_of_ble_eq_true rfl) (by decide) (show Sp D 3 mX9_resting [.ref b, .int ((x)), .ref 71] h 0 0 (some (.int ((rsF 2 2 (nI t) (N (112 + 7 * t + 3)) ((x)) (bgV (nI (13)) tr))).1)) (fun h' => TR h' ((rsF 2 2 (nI t) (N (112 + 7 * t + 3)) ((x)) (bgV (nI (13)) tr))).2 ∧ FO 71 h h') from vo_resting_X9_8 D hb h97 hT ((x))) (fun h hP => ?_)
  obtain ⟨hT, hF1⟩ := hP
  have hF := hF.trans hF1
  have hb := (hF1.2 b (by omega) (by omega)).trans hb
  refine e_aload_n dX9_telling_12 rfl ?_
  refine e_iload_n dX9_telling_13 rfl ?_
  refine e_aload_n dX9_telling_14 rfl ?_
  refine c_O2i (nc := 0) (ns := 0) (mc := 0) (ms := 0) (x := yX9_falling) (owner := "EmptyLand$Thing") (C := RX8) (N := mX9_falling) dX9_telling_15 lo_X9_46_8 mo_X9_falling (Or.inl ⟨8, tgF N t, _, hb, rfl, rfl⟩) (Nat.le_of_ble_eq_true rfl) (Nat.le_of_ble_eq_true rfl) (by decide) (show Sp D 1 mX9_falling [.ref b, .int ((x)), .ref 71] h 0 0 (some (.int ((flF 2 (N (112 + 7 * t + 3)) ((x)) ((rsF 2 2 (nI t) (N (112 + 7 * t + 3)) ((x)) (bgV (nI (13)) tr)).2))).1)) (fun h' => TR h' ((flF 2 (N (112 + 7 * t + 3)) ((x)) ((rsF 2 2 (nI t) (N (112 + 7 * t + 3)) ((x)) (bgV (nI (13)) tr)).2))).2 ∧ FO 71 h h') from vo_falling_X9_8 D hb h97 hT ((x))) (fun h hP => ?_)
  obtain ⟨hT, hF1⟩ := hP
  have hF := hF.trans hF1
  have hb := (hF1.2 b (by omega) (by omega)).trans hb
  refine e_ixor dX9_telling_18 ?_
  exact e_iret dX9_telling_19 rfl (hp _ ⟨hT, hF⟩)
set_option maxRecDepth 20000 in
theorem vo_telling_X9_3 (D : En) {h : AH} {b t : Nat} {N : Nat → Int32} {tr : TS} (hb : h[b]? = some (.inr (3, tgF N t))) (h97 : 101 ≤ b) (hT : TR h tr) (x : Int32) : Sp D 5 mX9_telling [.ref b, .int x, .ref 71] h 0 0 (some (.int (tlB 3 (nI t) (N (112 + 7 * t + 3)) x tr).1)) (fun h' => TR h' (tlB 3 (nI t) (N (112 + 7 * t + 3)) x tr).2 ∧ FO 71 h h') := by
  obtain ⟨h00, hh00⟩ : ∃ z, z = h := ⟨_, rfl⟩
  have hF : FO 71 h00 h := by rw [hh00]; exact FO.rf
  intro post hp
  rw [← hh00] at hp
  show Ev D 5 mX9_telling 0 [some (.ref (b)), some (.int (x)), some (.ref (71))] [] h 0 0 post
  refine e_aload_n dX9_telling_0 rfl ?_
  refine e_bipush (nI (13)) dX9_telling_1 (by decide) ?_
  refine c_V1v (nc := 0) (ns := 0) (mc := 0) (ms := 0) (N := mX5_add) dX9_telling_3 lv_X9_33 mo_X5_add (hT.cn) (Nat.le_of_ble_eq_true rfl) (Nat.le_of_ble_eq_true rfl) (by decide) (k_tadd D hT (nI (13))) (fun h hP => ?_)
  obtain ⟨hT, hF1⟩ := hP
  have hF := hF.trans hF1
  have hb := (hF1.2 b (by omega) (by omega)).trans hb
  refine e_aload_n dX9_telling_6 rfl ?_
  refine e_iload_n dX9_telling_7 rfl ?_
  refine e_aload_n dX9_telling_8 rfl ?_
  refine c_O2i (nc := 0) (ns := 0) (mc := 0) (ms := 0) (x := yX9_resting) (owner := "EmptyLand$Thing") (C := RX3) (N := mX9_resting) dX9_telling_9 lo_X9_43_3 mo_X9_resting (Or.inl ⟨3, tgF N t, _, hb, rfl, rfl⟩) (Nat.le_of_ble_eq_true rfl) (Nat.le_of_ble_eq_true rfl) (by decide) (show Sp D 4 mX9_resting [.ref b, .int ((x)), .ref 71] h 0 0 (some (.int ((rsF 3 3 (nI t) (N (112 + 7 * t + 3)) ((x)) (bgV (nI (13)) tr))).1)) (fun h' => TR h' ((rsF 3 3 (nI t) (N (112 + 7 * t + 3)) ((x)) (bgV (nI (13)) tr))).2 ∧ FO 71 h h') from vo_resting_X9_3 D hb h97 hT ((x))) (fun h hP => ?_)
  obtain ⟨hT, hF1⟩ := hP
  have hF := hF.trans hF1
  have hb := (hF1.2 b (by omega) (by omega)).trans hb
  refine e_aload_n dX9_telling_12 rfl ?_
  refine e_iload_n dX9_telling_13 rfl ?_
  refine e_aload_n dX9_telling_14 rfl ?_
  refine c_O2i (nc := 0) (ns := 0) (mc := 0) (ms := 0) (x := yX9_falling) (owner := "EmptyLand$Thing") (C := RX3) (N := mX3_falling) dX9_telling_15 lo_X9_46_3 mo_X3_falling (Or.inl ⟨3, tgF N t, _, hb, rfl, rfl⟩) (Nat.le_of_ble_eq_true rfl) (Nat.le_of_ble_eq_true rfl) (by decide) (show Sp D 2 mX3_falling [.ref b, .int ((x)), .ref 71] h 0 0 (some (.int ((flF 3 (N (112 + 7 * t + 3)) ((x)) ((rsF 3 3 (nI t) (N (112 + 7 * t + 3)) ((x)) (bgV (nI (13)) tr)).2))).1)) (fun h' => TR h' ((flF 3 (N (112 + 7 * t + 3)) ((x)) ((rsF 3 3 (nI t) (N (112 + 7 * t + 3)) ((x)) (bgV (nI (13)) tr)).2))).2 ∧ FO 71 h h') from vo_falling_X3_3 D hb h97 hT ((x))) (fun h hP => ?_)
  obtain ⟨hT, hF1⟩ := hP
  have hF := hF.trans hF1
  have hb := (hF1.2 b (by omega) (by omega)).trans hb
  refine e_ixor dX9_telling_18 ?_
  exact e_iret dX9_telling_19 rfl (hp _ ⟨hT, hF⟩)
set_option maxRecDepth 20000 in
theorem vo_telling_X9_1 (D : En) {h : AH} {b t : Nat} {N : Nat → Int32} {tr : TS} (hb : h[b]? = some (.inr (1, tgF N t))) (h97 : 101 ≤ b) (hT : TR h tr) (x : Int32) : Sp D 3 mX9_telling [.ref b, .int x, .ref 71] h 0 0 (some (.int (tlB 4 (nI t) (N (112 + 7 * t + 3)) x tr).1)) (fun h' => TR h' (tlB 4 (nI t) (N (112 + 7 * t + 3)) x tr).2 ∧ FO 71 h h') := by
  obtain ⟨h00, hh00⟩ : ∃ z, z = h := ⟨_, rfl⟩
  have hF : FO 71 h00 h := by rw [hh00]; exact FO.rf
  intro post hp
  rw [← hh00] at hp
  show Ev D 3 mX9_telling 0 [some (.ref (b)), some (.int (x)), some (.ref (71))] [] h 0 0 post
  refine e_aload_n dX9_telling_0 rfl ?_
  refine e_bipush (nI (13)) dX9_telling_1 (by decide) ?_
  refine c_V1v (nc := 0) (ns := 0) (mc := 0) (ms := 0) (N := mX5_add) dX9_telling_3 lv_X9_33 mo_X5_add (hT.cn) (Nat.le_of_ble_eq_true rfl) (Nat.le_of_ble_eq_true rfl) (by decide) (k_tadd D hT (nI (13))) (fun h hP => ?_)
  obtain ⟨hT, hF1⟩ := hP
  have hF := hF.trans hF1
  have hb := (hF1.2 b (by omega) (by omega)).trans hb
  refine e_aload_n dX9_telling_6 rfl ?_
  refine e_iload_n dX9_telling_7 rfl ?_
  refine e_aload_n dX9_telling_8 rfl ?_
  refine c_O2i (nc := 0) (ns := 0) (mc := 0) (ms := 0) (x := yX9_resting) (owner := "EmptyLand$Thing") (C := RX1) (N := mX9_resting) dX9_telling_9 lo_X9_43_1 mo_X9_resting (Or.inl ⟨1, tgF N t, _, hb, rfl, rfl⟩) (Nat.le_of_ble_eq_true rfl) (Nat.le_of_ble_eq_true rfl) (by decide) (show Sp D 2 mX9_resting [.ref b, .int ((x)), .ref 71] h 0 0 (some (.int ((rsF 4 4 (nI t) (N (112 + 7 * t + 3)) ((x)) (bgV (nI (13)) tr))).1)) (fun h' => TR h' ((rsF 4 4 (nI t) (N (112 + 7 * t + 3)) ((x)) (bgV (nI (13)) tr))).2 ∧ FO 71 h h') from vo_resting_X9_1 D hb h97 hT ((x))) (fun h hP => ?_)
  obtain ⟨hT, hF1⟩ := hP
  have hF := hF.trans hF1
  have hb := (hF1.2 b (by omega) (by omega)).trans hb
  refine e_aload_n dX9_telling_12 rfl ?_
  refine e_iload_n dX9_telling_13 rfl ?_
  refine e_aload_n dX9_telling_14 rfl ?_
  refine c_O2i (nc := 0) (ns := 0) (mc := 0) (ms := 0) (x := yX9_falling) (owner := "EmptyLand$Thing") (C := RX1) (N := mX9_falling) dX9_telling_15 lo_X9_46_1 mo_X9_falling (Or.inl ⟨1, tgF N t, _, hb, rfl, rfl⟩) (Nat.le_of_ble_eq_true rfl) (Nat.le_of_ble_eq_true rfl) (by decide) (show Sp D 1 mX9_falling [.ref b, .int ((x)), .ref 71] h 0 0 (some (.int ((flF 4 (N (112 + 7 * t + 3)) ((x)) ((rsF 4 4 (nI t) (N (112 + 7 * t + 3)) ((x)) (bgV (nI (13)) tr)).2))).1)) (fun h' => TR h' ((flF 4 (N (112 + 7 * t + 3)) ((x)) ((rsF 4 4 (nI t) (N (112 + 7 * t + 3)) ((x)) (bgV (nI (13)) tr)).2))).2 ∧ FO 71 h h') from vo_falling_X9_1 D hb h97 hT ((x))) (fun h hP => ?_)
  obtain ⟨hT, hF1⟩ := hP
  have hF := hF.trans hF1
  have hb := (hF1.2 b (by omega) (by omega)).trans hb
  refine e_ixor dX9_telling_18 ?_
  exact e_iret dX9_telling_19 rfl (hp _ ⟨hT, hF⟩)
set_option maxRecDepth 20000 in
theorem vo_telling_X1_1 (D : En) {h : AH} {b t : Nat} {N : Nat → Int32} {tr : TS} (hb : h[b]? = some (.inr (1, tgF N t))) (h97 : 101 ≤ b) (hT : TR h tr) (x : Int32) : Sp D 4 mX1_telling [.ref b, .int x, .ref 71] h 0 0 (some (.int (tlS 4 (nI t) (N (112 + 7 * t + 3)) x tr).1)) (fun h' => TR h' (tlS 4 (nI t) (N (112 + 7 * t + 3)) x tr).2 ∧ FO 71 h h') := by
  obtain ⟨h00, hh00⟩ : ∃ z, z = h := ⟨_, rfl⟩
  have hF : FO 71 h00 h := by rw [hh00]; exact FO.rf
  intro post hp
  rw [← hh00] at hp
  show Ev D 4 mX1_telling 0 [some (.ref (b)), some (.int (x)), some (.ref (71))] [] h 0 0 post
  refine e_aload_n dX1_telling_0 rfl ?_
  refine e_bipush (nI (50)) dX1_telling_1 (by decide) ?_
  refine c_V1v (nc := 0) (ns := 0) (mc := 0) (ms := 0) (N := mX5_add) dX1_telling_3 lv_X1_27 mo_X5_add (hT.cn) (Nat.le_of_ble_eq_true rfl) (Nat.le_of_ble_eq_true rfl) (by decide) (k_tadd D hT (nI (50))) (fun h hP => ?_)
  obtain ⟨hT, hF1⟩ := hP
  have hF := hF.trans hF1
  have hb := (hF1.2 b (by omega) (by omega)).trans hb
  refine e_aload_n dX1_telling_6 rfl ?_
  refine e_iload_n dX1_telling_7 rfl ?_
  refine e_aload_n dX1_telling_8 rfl ?_
  refine c_U2i (nc := 0) (ns := 0) (mc := 0) (ms := 0) (N := mX9_telling) dX1_telling_9 lu_X1_33 mo_X9_telling hb rfl (Nat.le_of_ble_eq_true rfl) (Nat.le_of_ble_eq_true rfl) (by decide) (vo_telling_X9_1 D hb h97 hT ((x))) (fun h hP => ?_)
  obtain ⟨hT, hF1⟩ := hP
  have hF := hF.trans hF1
  have hb := (hF1.2 b (by omega) (by omega)).trans hb
  refine e_aload_n dX1_telling_12 rfl ?_
  refine e_iconst (nI (2)) dX1_telling_13 (by decide) ?_
  refine e_aload_n dX1_telling_14 rfl ?_
  refine c_O2i (nc := 0) (ns := 0) (mc := 0) (ms := 0) (x := (⟨"EmptyLand$Bus", "holding", "(ILEmptyLand$Row;)I"⟩ : MethodName)) (owner := "EmptyLand$Thing") (C := RX1) (N := mX9_holding) dX1_telling_15 lo_X1_37_1 mo_X9_holding (Or.inl ⟨1, tgF N t, _, hb, rfl, rfl⟩) (Nat.le_of_ble_eq_true rfl) (Nat.le_of_ble_eq_true rfl) (by decide) (show Sp D 1 mX9_holding [.ref b, .int (nI (2)), .ref 71] h 0 0 (some (.int ((hdF 4 (nI t) (nI (2)) ((tlB 4 (nI t) (N (112 + 7 * t + 3)) ((x)) (bgV (nI (50)) tr)).2))).1)) (fun h' => TR h' ((hdF 4 (nI t) (nI (2)) ((tlB 4 (nI t) (N (112 + 7 * t + 3)) ((x)) (bgV (nI (50)) tr)).2))).2 ∧ FO 71 h h') from vo_holding_X9_1 D hb h97 hT (nI (2))) (fun h hP => ?_)
  obtain ⟨hT, hF1⟩ := hP
  have hF := hF.trans hF1
  have hb := (hF1.2 b (by omega) (by omega)).trans hb
  refine e_isub dX1_telling_18 ?_
  exact e_iret dX1_telling_19 rfl (hp _ ⟨hT, hF⟩)
set_option maxRecDepth 20000 in
theorem vo_telling_X9_10 (D : En) {h : AH} {b t : Nat} {N : Nat → Int32} {tr : TS} (hb : h[b]? = some (.inr (10, tgF N t))) (h97 : 101 ≤ b) (hT : TR h tr) (x : Int32) : Sp D 6 mX9_telling [.ref b, .int x, .ref 71] h 0 0 (some (.int (tlB 5 (nI t) (N (112 + 7 * t + 3)) x tr).1)) (fun h' => TR h' (tlB 5 (nI t) (N (112 + 7 * t + 3)) x tr).2 ∧ FO 71 h h') := by
  obtain ⟨h00, hh00⟩ : ∃ z, z = h := ⟨_, rfl⟩
  have hF : FO 71 h00 h := by rw [hh00]; exact FO.rf
  intro post hp
  rw [← hh00] at hp
  show Ev D 6 mX9_telling 0 [some (.ref (b)), some (.int (x)), some (.ref (71))] [] h 0 0 post
  refine e_aload_n dX9_telling_0 rfl ?_
  refine e_bipush (nI (13)) dX9_telling_1 (by decide) ?_
  refine c_V1v (nc := 0) (ns := 0) (mc := 0) (ms := 0) (N := mX5_add) dX9_telling_3 lv_X9_33 mo_X5_add (hT.cn) (Nat.le_of_ble_eq_true rfl) (Nat.le_of_ble_eq_true rfl) (by decide) (k_tadd D hT (nI (13))) (fun h hP => ?_)
  obtain ⟨hT, hF1⟩ := hP
  have hF := hF.trans hF1
  have hb := (hF1.2 b (by omega) (by omega)).trans hb
  refine e_aload_n dX9_telling_6 rfl ?_
  refine e_iload_n dX9_telling_7 rfl ?_
  refine e_aload_n dX9_telling_8 rfl ?_
  refine c_O2i (nc := 0) (ns := 0) (mc := 0) (ms := 0) (x := yX9_resting) (owner := "EmptyLand$Thing") (C := RX10) (N := mX10_resting) dX9_telling_9 lo_X9_43_10 mo_X10_resting (Or.inl ⟨10, tgF N t, _, hb, rfl, rfl⟩) (Nat.le_of_ble_eq_true rfl) (Nat.le_of_ble_eq_true rfl) (by decide) (show Sp D 5 mX10_resting [.ref b, .int ((x)), .ref 71] h 0 0 (some (.int ((rsF 5 5 (nI t) (N (112 + 7 * t + 3)) ((x)) (bgV (nI (13)) tr))).1)) (fun h' => TR h' ((rsF 5 5 (nI t) (N (112 + 7 * t + 3)) ((x)) (bgV (nI (13)) tr))).2 ∧ FO 71 h h') from vo_resting_X10_10 D hb h97 hT ((x))) (fun h hP => ?_)
  obtain ⟨hT, hF1⟩ := hP
  have hF := hF.trans hF1
  have hb := (hF1.2 b (by omega) (by omega)).trans hb
  refine e_aload_n dX9_telling_12 rfl ?_
  refine e_iload_n dX9_telling_13 rfl ?_
  refine e_aload_n dX9_telling_14 rfl ?_
  refine c_O2i (nc := 0) (ns := 0) (mc := 0) (ms := 0) (x := yX9_falling) (owner := "EmptyLand$Thing") (C := RX10) (N := mX9_falling) dX9_telling_15 lo_X9_46_10 mo_X9_falling (Or.inl ⟨10, tgF N t, _, hb, rfl, rfl⟩) (Nat.le_of_ble_eq_true rfl) (Nat.le_of_ble_eq_true rfl) (by decide) (show Sp D 1 mX9_falling [.ref b, .int ((x)), .ref 71] h 0 0 (some (.int ((flF 5 (N (112 + 7 * t + 3)) ((x)) ((rsF 5 5 (nI t) (N (112 + 7 * t + 3)) ((x)) (bgV (nI (13)) tr)).2))).1)) (fun h' => TR h' ((flF 5 (N (112 + 7 * t + 3)) ((x)) ((rsF 5 5 (nI t) (N (112 + 7 * t + 3)) ((x)) (bgV (nI (13)) tr)).2))).2 ∧ FO 71 h h') from vo_falling_X9_10 D hb h97 hT ((x))) (fun h hP => ?_)
  obtain ⟨hT, hF1⟩ := hP
  have hF := hF.trans hF1
  have hb := (hF1.2 b (by omega) (by omega)).trans hb
  refine e_ixor dX9_telling_18 ?_
  exact e_iret dX9_telling_19 rfl (hp _ ⟨hT, hF⟩)
set_option maxRecDepth 20000 in
theorem vo_telling_X9_0 (D : En) {h : AH} {b t : Nat} {N : Nat → Int32} {tr : TS} (hb : h[b]? = some (.inr (0, tgF N t))) (h97 : 101 ≤ b) (hT : TR h tr) (x : Int32) : Sp D 3 mX9_telling [.ref b, .int x, .ref 71] h 0 0 (some (.int (tlB 6 (nI t) (N (112 + 7 * t + 3)) x tr).1)) (fun h' => TR h' (tlB 6 (nI t) (N (112 + 7 * t + 3)) x tr).2 ∧ FO 71 h h') := by
  obtain ⟨h00, hh00⟩ : ∃ z, z = h := ⟨_, rfl⟩
  have hF : FO 71 h00 h := by rw [hh00]; exact FO.rf
  intro post hp
  rw [← hh00] at hp
  show Ev D 3 mX9_telling 0 [some (.ref (b)), some (.int (x)), some (.ref (71))] [] h 0 0 post
  refine e_aload_n dX9_telling_0 rfl ?_
  refine e_bipush (nI (13)) dX9_telling_1 (by decide) ?_
  refine c_V1v (nc := 0) (ns := 0) (mc := 0) (ms := 0) (N := mX5_add) dX9_telling_3 lv_X9_33 mo_X5_add (hT.cn) (Nat.le_of_ble_eq_true rfl) (Nat.le_of_ble_eq_true rfl) (by decide) (k_tadd D hT (nI (13))) (fun h hP => ?_)
  obtain ⟨hT, hF1⟩ := hP
  have hF := hF.trans hF1
  have hb := (hF1.2 b (by omega) (by omega)).trans hb
  refine e_aload_n dX9_telling_6 rfl ?_
  refine e_iload_n dX9_telling_7 rfl ?_
  refine e_aload_n dX9_telling_8 rfl ?_
  refine c_O2i (nc := 0) (ns := 0) (mc := 0) (ms := 0) (x := yX9_resting) (owner := "EmptyLand$Thing") (C := RX0) (N := mX9_resting) dX9_telling_9 lo_X9_43_0 mo_X9_resting (Or.inl ⟨0, tgF N t, _, hb, rfl, rfl⟩) (Nat.le_of_ble_eq_true rfl) (Nat.le_of_ble_eq_true rfl) (by decide) (show Sp D 2 mX9_resting [.ref b, .int ((x)), .ref 71] h 0 0 (some (.int ((rsF 6 6 (nI t) (N (112 + 7 * t + 3)) ((x)) (bgV (nI (13)) tr))).1)) (fun h' => TR h' ((rsF 6 6 (nI t) (N (112 + 7 * t + 3)) ((x)) (bgV (nI (13)) tr))).2 ∧ FO 71 h h') from vo_resting_X9_0 D hb h97 hT ((x))) (fun h hP => ?_)
  obtain ⟨hT, hF1⟩ := hP
  have hF := hF.trans hF1
  have hb := (hF1.2 b (by omega) (by omega)).trans hb
  refine e_aload_n dX9_telling_12 rfl ?_
  refine e_iload_n dX9_telling_13 rfl ?_
  refine e_aload_n dX9_telling_14 rfl ?_
  refine c_O2i (nc := 0) (ns := 0) (mc := 0) (ms := 0) (x := yX9_falling) (owner := "EmptyLand$Thing") (C := RX0) (N := mX9_falling) dX9_telling_15 lo_X9_46_0 mo_X9_falling (Or.inl ⟨0, tgF N t, _, hb, rfl, rfl⟩) (Nat.le_of_ble_eq_true rfl) (Nat.le_of_ble_eq_true rfl) (by decide) (show Sp D 1 mX9_falling [.ref b, .int ((x)), .ref 71] h 0 0 (some (.int ((flF 6 (N (112 + 7 * t + 3)) ((x)) ((rsF 6 6 (nI t) (N (112 + 7 * t + 3)) ((x)) (bgV (nI (13)) tr)).2))).1)) (fun h' => TR h' ((flF 6 (N (112 + 7 * t + 3)) ((x)) ((rsF 6 6 (nI t) (N (112 + 7 * t + 3)) ((x)) (bgV (nI (13)) tr)).2))).2 ∧ FO 71 h h') from vo_falling_X9_0 D hb h97 hT ((x))) (fun h hP => ?_)
  obtain ⟨hT, hF1⟩ := hP
  have hF := hF.trans hF1
  have hb := (hF1.2 b (by omega) (by omega)).trans hb
  refine e_ixor dX9_telling_18 ?_
  exact e_iret dX9_telling_19 rfl (hp _ ⟨hT, hF⟩)
set_option maxRecDepth 20000 in
theorem vo_telling_X1_0 (D : En) {h : AH} {b t : Nat} {N : Nat → Int32} {tr : TS} (hb : h[b]? = some (.inr (0, tgF N t))) (h97 : 101 ≤ b) (hT : TR h tr) (x : Int32) : Sp D 4 mX1_telling [.ref b, .int x, .ref 71] h 0 0 (some (.int (tlS 6 (nI t) (N (112 + 7 * t + 3)) x tr).1)) (fun h' => TR h' (tlS 6 (nI t) (N (112 + 7 * t + 3)) x tr).2 ∧ FO 71 h h') := by
  obtain ⟨h00, hh00⟩ : ∃ z, z = h := ⟨_, rfl⟩
  have hF : FO 71 h00 h := by rw [hh00]; exact FO.rf
  intro post hp
  rw [← hh00] at hp
  show Ev D 4 mX1_telling 0 [some (.ref (b)), some (.int (x)), some (.ref (71))] [] h 0 0 post
  refine e_aload_n dX1_telling_0 rfl ?_
  refine e_bipush (nI (50)) dX1_telling_1 (by decide) ?_
  refine c_V1v (nc := 0) (ns := 0) (mc := 0) (ms := 0) (N := mX5_add) dX1_telling_3 lv_X1_27 mo_X5_add (hT.cn) (Nat.le_of_ble_eq_true rfl) (Nat.le_of_ble_eq_true rfl) (by decide) (k_tadd D hT (nI (50))) (fun h hP => ?_)
  obtain ⟨hT, hF1⟩ := hP
  have hF := hF.trans hF1
  have hb := (hF1.2 b (by omega) (by omega)).trans hb
  refine e_aload_n dX1_telling_6 rfl ?_
  refine e_iload_n dX1_telling_7 rfl ?_
  refine e_aload_n dX1_telling_8 rfl ?_
  refine c_U2i (nc := 0) (ns := 0) (mc := 0) (ms := 0) (N := mX9_telling) dX1_telling_9 lu_X1_33 mo_X9_telling hb rfl (Nat.le_of_ble_eq_true rfl) (Nat.le_of_ble_eq_true rfl) (by decide) (vo_telling_X9_0 D hb h97 hT ((x))) (fun h hP => ?_)
  obtain ⟨hT, hF1⟩ := hP
  have hF := hF.trans hF1
  have hb := (hF1.2 b (by omega) (by omega)).trans hb
  refine e_aload_n dX1_telling_12 rfl ?_
  refine e_iconst (nI (2)) dX1_telling_13 (by decide) ?_
  refine e_aload_n dX1_telling_14 rfl ?_
  refine c_O2i (nc := 0) (ns := 0) (mc := 0) (ms := 0) (x := (⟨"EmptyLand$Bus", "holding", "(ILEmptyLand$Row;)I"⟩ : MethodName)) (owner := "EmptyLand$Thing") (C := RX0) (N := mX9_holding) dX1_telling_15 lo_X1_37_0 mo_X9_holding (Or.inl ⟨0, tgF N t, _, hb, rfl, rfl⟩) (Nat.le_of_ble_eq_true rfl) (Nat.le_of_ble_eq_true rfl) (by decide) (show Sp D 1 mX9_holding [.ref b, .int (nI (2)), .ref 71] h 0 0 (some (.int ((hdF 6 (nI t) (nI (2)) ((tlB 6 (nI t) (N (112 + 7 * t + 3)) ((x)) (bgV (nI (50)) tr)).2))).1)) (fun h' => TR h' ((hdF 6 (nI t) (nI (2)) ((tlB 6 (nI t) (N (112 + 7 * t + 3)) ((x)) (bgV (nI (50)) tr)).2))).2 ∧ FO 71 h h') from vo_holding_X9_0 D hb h97 hT (nI (2))) (fun h hP => ?_)
  obtain ⟨hT, hF1⟩ := hP
  have hF := hF.trans hF1
  have hb := (hF1.2 b (by omega) (by omega)).trans hb
  refine e_isub dX1_telling_18 ?_
  exact e_iret dX1_telling_19 rfl (hp _ ⟨hT, hF⟩)
