def E3 (M N : Nat → Int32) : Prop := nvN M = nvN N ∧ tcN M = tcN N ∧ txN M = txN N
theorem E3.yrs {M N : Nat → Int32} (h : E3 M N) (n : Nat) : yrX M M n = yrX N M n := by unfold yrX; rw [h.1, h.2.1, h.2.2]
theorem Shp.cn {h : AH} {a : Nat} (hS : Shp h a) : CN h a RX4 := by
  obtain ⟨⟨M, hLo⟩, -⟩ := hS
  exact Or.inl ⟨4, _, _, hLo, rfl, rfl⟩
theorem c_cpA (D : En) {h : AH} {s : SS} (hC : ClsS h s) (hI : IN (sN s)) : Sp D 1 mX4_copyFrom [.ref 46, .ref 13] h 0 0 none (fun h' => ClsS h' s ∧ FrC h h' ∧ LB h' 46 (sN s) ∧ TN h' 46 (tcN (sN s)) ∧ FZ 46 h h') :=
  (k_copy D hC.a44 (by decide) hC.L hI hC.T (by decide)).weak (fun h' q => ⟨hC.ahead q.2.2.z q.1.2.1 q.1.1.shp, q.2.2.z.frc hC.rb (by decide) (by decide), q.1, q.2.1, q.2.2.z⟩)
theorem c_ysA (D : En) {h : AH} {s : SS} (hC : ClsS h s) {M N : Nat → Int32} (hA : LB h 46 M) (hI : IN M) (hE : E3 M N) (n : Nat) (hn : n < 2 ^ 31) : Sp D 7 mX4_passYears [.ref 46, .int (nI n)] h 0 0 none (fun h' => ClsS h' s ∧ FrC h h' ∧ LB h' 46 (yrX N M n) ∧ IN (yrX N M n) ∧ E3 (yrX N M n) N ∧ FZ 46 h h') := by
  refine (k_years D hA hI n hn).weak (fun h' q => ?_)
  obtain ⟨q1, q2, q3, q4⟩ := q
  refine ⟨hC.ahead q3.z q1.2.1 q1.1.shp, q3.z.frc hC.rb (by decide) (by decide), ?_⟩
  rw [hE.yrs] at q1 q2 q4
  exact ⟨q1, q2, ⟨q4.nv.trans hE.1, q4.tc.trans hE.2.1, q4.tx.trans hE.2.2⟩, q3.z⟩
theorem c_yA (D : En) {h : AH} {s : SS} (hC : ClsS h s) {M N : Nat → Int32} {k : Nat} (hA : LB h 46 (yrX N M k)) (hI : IN (yrX N M k)) (hE : E3 (yrX N M k) N) : Sp D 6 mX4_passYear [.ref 46] h 0 0 none (fun h' => ClsS h' s ∧ FrC h h' ∧ LB h' 46 (yrX N M (k + 1)) ∧ IN (yrX N M (k + 1)) ∧ E3 (yrX N M (k + 1)) N ∧ (TN h 46 (tcN N) → TN h' 46 (tcN N)) ∧ FZ 46 h h') := by
  refine (k_year D hA hI).weak (fun h' q => ?_)
  obtain ⟨q1, q2, q3, q4⟩ := q
  refine ⟨hC.ahead q3.z q1.2.1 q1.1.shp, q3.z.frc hC.rb (by decide) (by decide), ?_⟩
  have e : yearR G0 (yrX N M k) (nvN (yrX N M k)) (tcN (yrX N M k)) (txN (yrX N M k)) = yrX N M (k + 1) := by rw [hE.1, hE.2.1, hE.2.2]; rfl
  rw [e] at q1 q2 q4
  exact ⟨q1, q2, ⟨q4.nv.trans hE.1, q4.tc.trans hE.2.1, q4.tx.trans hE.2.2⟩, fun hT => hT.fy q3 hC.rb (by decide), q3.z⟩
theorem c_cpP (D : En) {h : AH} {s : SS} (hC : ClsS h s) (hI : IN (sN s)) : Sp D 1 mX4_copyFrom [.ref 58, .ref 13] h 0 0 none (fun h' => ClsS h' s ∧ FrC h h' ∧ LB h' 58 (sN s) ∧ TN h' 58 (tcN (sN s)) ∧ FZ 58 h h') :=
  (k_copy D hC.p55 (by decide) hC.L hI hC.T (by decide)).weak (fun h' q => ⟨hC.path q.2.2.z q.1.2.1 q.1.1.shp, q.2.2.z.frc hC.rb (by decide) (by decide), q.1, q.2.1, q.2.2.z⟩)
theorem c_ysP (D : En) {h : AH} {s : SS} (hC : ClsS h s) {M N : Nat → Int32} (hA : LB h 58 M) (hI : IN M) (hE : E3 M N) (n : Nat) (hn : n < 2 ^ 31) : Sp D 7 mX4_passYears [.ref 58, .int (nI n)] h 0 0 none (fun h' => ClsS h' s ∧ FrC h h' ∧ LB h' 58 (yrX N M n) ∧ IN (yrX N M n) ∧ E3 (yrX N M n) N ∧ FZ 58 h h') := by
  refine (k_years D hA hI n hn).weak (fun h' q => ?_)
  obtain ⟨q1, q2, q3, q4⟩ := q
  refine ⟨hC.path q3.z q1.2.1 q1.1.shp, q3.z.frc hC.rb (by decide) (by decide), ?_⟩
  rw [hE.yrs] at q1 q2 q4
  exact ⟨q1, q2, ⟨q4.nv.trans hE.1, q4.tc.trans hE.2.1, q4.tx.trans hE.2.2⟩, q3.z⟩
theorem c_yP (D : En) {h : AH} {s : SS} (hC : ClsS h s) {M N : Nat → Int32} {k : Nat} (hA : LB h 58 (yrX N M k)) (hI : IN (yrX N M k)) (hE : E3 (yrX N M k) N) : Sp D 6 mX4_passYear [.ref 58] h 0 0 none (fun h' => ClsS h' s ∧ FrC h h' ∧ LB h' 58 (yrX N M (k + 1)) ∧ IN (yrX N M (k + 1)) ∧ E3 (yrX N M (k + 1)) N ∧ (TN h 58 (tcN N) → TN h' 58 (tcN N)) ∧ FZ 58 h h') := by
  refine (k_year D hA hI).weak (fun h' q => ?_)
  obtain ⟨q1, q2, q3, q4⟩ := q
  refine ⟨hC.path q3.z q1.2.1 q1.1.shp, q3.z.frc hC.rb (by decide) (by decide), ?_⟩
  have e : yearR G0 (yrX N M k) (nvN (yrX N M k)) (tcN (yrX N M k)) (txN (yrX N M k)) = yrX N M (k + 1) := by rw [hE.1, hE.2.1, hE.2.2]; rfl
  rw [e] at q1 q2 q4
  exact ⟨q1, q2, ⟨q4.nv.trans hE.1, q4.tc.trans hE.2.1, q4.tx.trans hE.2.2⟩, fun hT => hT.fy q3 hC.rb (by decide), q3.z⟩
theorem c_cpAP (D : En) {h : AH} {s : SS} (hC : ClsS h s) {M : Nat → Int32} {n : Nat} (hP : LB h 58 M) (hI : IN M) (hT : TN h 58 n) (hn : n = tcN M := by rfl) : Sp D 1 mX4_copyFrom [.ref 46, .ref 58] h 0 0 none (fun h' => ClsS h' s ∧ FrC h h' ∧ LB h' 46 M ∧ TN h' 46 (tcN M) ∧ FZ 46 h h') :=
  (k_copy D hC.a44 (by decide) hP hI (hn ▸ hT) (by decide)).weak (fun h' q => ⟨hC.ahead q.2.2.z q.1.2.1 q.1.1.shp, q.2.2.z.frc hC.rb (by decide) (by decide), q.1, q.2.1, q.2.2.z⟩)
theorem fsP_hit {P : Nat → Bool} : ∀ (n k0 k : Nat), k0 ≤ k → k ≤ k0 + n → (∀ i, k0 ≤ i → i < k → ¬ P i = true) → P k = true → fsP P n k0 = k := by
  intro n
  induction n with
  | zero =>
    intro k0 k h1 h2 _ _
    show k0 = k
    omega
  | succ n ih =>
    intro k0 k h1 h2 h3 h4
    rw [fsP]
    by_cases e : k = k0
    · subst e; rw [if_pos h4]
    · rw [if_neg (h3 k0 (Nat.le_refl _) (by omega))]
      exact ih (k0 + 1) k (by omega) (by omega) (fun i a b => h3 i (by omega) b) h4
theorem fsP_miss {P : Nat → Bool} : ∀ (n k0 : Nat), (∀ i, k0 ≤ i → i < k0 + n → ¬ P i = true) → fsP P n k0 = k0 + n := by
  intro n
  induction n with
  | zero => intro k0 _; rfl
  | succ n ih =>
    intro k0 h
    rw [fsP, if_neg (h k0 (Nat.le_refl _) (by omega)), ih (k0 + 1) (fun i a b => h i (by omega) (by omega))]
    omega
theorem allR_nn {M : Nat → Int32} (hI : IN M) {v : Nat} (hv : v < 8) : ∃ m, m ≤ 299997 ∧ allR M v = nI m := by
  obtain ⟨e0, -, l0⟩ := wiN (hI.2.2.2.1.1 v hv 0 (by decide)) (by decide) (by decide)
  obtain ⟨e1, -, l1⟩ := wiN (hI.2.2.2.1.1 v hv 1 (by decide)) (by decide) (by decide)
  obtain ⟨e2, -, l2⟩ := wiN (hI.2.2.2.1.1 v hv 2 (by decide)) (by decide) (by decide)
  refine ⟨tn (M (16 + 4 * v + 1 + 0)) + tn (M (16 + 4 * v + 1 + 1)) + tn (M (16 + 4 * v + 1 + 2)), by omega, ?_⟩
  unfold allR
  rw [e0, e1, e2, nI_add, nI_add, tn_nI (by omega), tn_nI (by omega), tn_nI (by omega)]
theorem flP_iff {N : Nat → Int32} {v k : Nat} (hI : IN (yrX N N k)) (hv : v < 8) : flP N v k = true ↔ allR (yrX N N k) v = 0 := by
  obtain ⟨m, m1, m2⟩ := allR_nn hI hv
  unfold flP
  rw [decide_eq_true_iff, show yrN N k = yrX N N k from rfl, m2]
  constructor
  · intro q
    have h0 : nI m ≤ nI 0 := Int32.not_lt.mp q
    rw [nI_leI (by omega) (by decide)] at h0
    rw [show m = 0 by omega]; rfl
  · intro q w
    rw [q] at w
    exact absurd w (by decide)
set_option maxRecDepth 20000 in
theorem cp_left (D : En) {h : AH} {s : SS} (hI : INV s) (hC : ClsS h s) (n : Int32) (w : Int32) : Sp D 8 mX11_left [.ref (11), .int (n), .int (w)] h 0 0 (some (.int (f_left s n w).1)) (fun h' => ClsS h' (f_left s n w).2 ∧ FrC h h') := by
  have hY := hI.1.1
  have hnv := hY.2.1
  have htc10 := hY.2.2.2.1
  obtain ⟨h00, hh00⟩ : ∃ z, z = h := ⟨_, rfl⟩
  have hF : FrC h00 h := by rw [hh00]; exact FrC.rf
  intro post hp
  rw [← hh00] at hp
  show Ev D 8 mX11_left 0 [some (.ref (11)), some (.int (n)), some (.int (w))] [] h 0 0 post
  refine e_iload_n dX11_left_0 rfl ?_
  refine c_S1iR (N := mX11_isAhead) dX11_left_1 ls_X11_229 mo_X11_isAhead  (Nat.le_of_ble_eq_true rfl) (Nat.le_of_ble_eq_true rfl) (by decide) (c_isA D ((n))) ?_
  refine e_if_eqB 16 dX11_left_4 (by decide) (fun hcq4 => ?_) (fun hcq4 => ?_)
  · refine e_aload_n dX11_left_16 rfl ?_
    refine e_iconst (nI (1)) dX11_left_17 (by decide) ?_
    refine c_V1i (nc := 0) (ns := 0) (mc := 0) (ms := 0) (N := mX11_error) dX11_left_18 lv_X11_54 mo_X11_error hC.cn (Nat.le_of_ble_eq_true rfl) (Nat.le_of_ble_eq_true rfl) (by decide) (c_error D hC 1 (by decide)) (fun h hP => ?_)
    obtain ⟨hC, hF1⟩ := hP
    have hF := hF.trans hF1
    have e9 : f_left s n w = er 1 (s) := by rw [f_left, if_neg hcq4]
    rw [e9] at hp
    exact e_iret dX11_left_21 rfl (hp _ ⟨hC, hF⟩)
  · obtain ⟨hn_n, hg_n, hl_n⟩ := wiN hcq4 (by decide) (by decide)
    refine e_iload_n dX11_left_7 rfl ?_
    refine e_iconst (nI (0)) dX11_left_8 (by decide) ?_
    refine e_iconst (nI (3)) dX11_left_9 (by decide) ?_
    refine c_S3iR (N := mX11_within) dX11_left_10 ls_X11_72 mo_X11_within  (Nat.le_of_ble_eq_true rfl) (Nat.le_of_ble_eq_true rfl) (by decide) (c_within D ((w)) (nI (0)) (nI (3))) ?_
    refine e_if_neB 22 dX11_left_13 (by decide) (fun hcq13 => ?_) (fun hcq13 => ?_)
    · obtain ⟨hn_w, hg_w, hl_w⟩ := wiN hcq13 (by decide) (by decide)
      refine e_aload_n dX11_left_22 rfl ?_
      refine e_get dX11_left_23 fl_X11_26_11 hC.1 rfl ?_
      refine e_aload_n dX11_left_26 rfl ?_
      refine e_get dX11_left_27 fl_X11_10_11 hC.1 rfl ?_
      refine e_get dX11_left_30 fl_X11_58_2 hC.2.1.1 rfl ?_
      refine c_V1v (nc := 0) (ns := 0) (mc := 0) (ms := 0) (N := mX4_copyFrom) dX11_left_33 lv_X11_232 mo_X4_copyFrom (Shp.cn hC.a44) (Nat.le_of_ble_eq_true rfl) (Nat.le_of_ble_eq_true rfl) (by decide) (c_cpA D hC hI.1) (fun h hP => ?_)
      obtain ⟨hC, hF1, hA, hTA, hZ9⟩ := hP
      have hF := hF.trans hF1
      have hIA := hI.1
      have hEA : E3 (sN s) (sN s) := ⟨rfl, rfl, rfl⟩
      refine e_aload_n dX11_left_36 rfl ?_
      refine e_get dX11_left_37 fl_X11_26_11 hC.1 rfl ?_
      refine e_iload_n dX11_left_40 rfl ?_
      refine e_top (nI (tn n)) (hn_n) ?_
      refine c_V1v (nc := 0) (ns := 0) (mc := 0) (ms := 0) (N := mX4_passYears) dX11_left_41 lv_X11_226 mo_X4_passYears hA.1.cn (Nat.le_of_ble_eq_true rfl) (Nat.le_of_ble_eq_true rfl) (by decide) (c_ysA D hC hA hIA hEA (tn n) (by omega)) (fun h hP => ?_)
      obtain ⟨hC, hF1, hA, hIA, hEA, hZ9⟩ := hP
      have hF := hF.trans hF1
      refine e_iload_n dX11_left_44 rfl ?_
      refine e_top (nI (tn w)) (hn_w) ?_
      rcases (show tn w = 0 ∨ tn w = 1 ∨ tn w = 2 ∨ tn w = 3 by omega) with e0 | e0 | e0 | e0
      · refine e_top (nI 0) (by rw [e0]) ?_
        refine e_tableIn (off := 27) 72 dX11_left_45 (by decide) (by decide) (by decide) (by decide) ?_
        refine e_aload_n dX11_left_72 rfl ?_
        refine e_get dX11_left_73 fl_X11_26_11 hC.1 rfl ?_
        refine c_V0iR (N := mX4_allPeople) dX11_left_76 lv_X11_236 mo_X4_allPeople hA.1.cn (Nat.le_of_ble_eq_true rfl) (Nat.le_of_ble_eq_true rfl) (by decide) (k_allPeople D hA.1 hIA ) ?_
        refine e_top ((ppN (yrX (sN s) (sN s) (tn n)) (nvN (sN s)))) (by rw [hEA.1]) ?_
        have e9 : f_left s n w = ((ppN (yrX (sN s) (sN s) (tn n)) (nvN (sN s))), s) := by rw [f_left, if_pos hcq4, if_pos hcq13, e0] <;> rfl
        rw [e9] at hp
        exact e_iret dX11_left_79 rfl (hp _ ⟨hC, hF⟩)
      · refine e_top (nI 1) (by rw [e0]) ?_
        refine e_tableIn (off := 35) 80 dX11_left_45 (by decide) (by decide) (by decide) (by decide) ?_
        refine e_aload_n dX11_left_80 rfl ?_
        refine e_get dX11_left_81 fl_X11_26_11 hC.1 rfl ?_
        obtain ⟨f7A, hr7A, he7A⟩ := hA.1.2.2.2.2.2.2.2.1
        refine e_get dX11_left_84 fl_X11_220_4 hA.1.1 rfl ?_
        refine e_iconst (nI (5)) dX11_left_87 (by decide) ?_
        refine e_ild (5) ((yrX (sN s) (sN s) (tn n) 12)) dX11_left_88 hr7A rfl (by decide) (by decide) (he7A 5 (by decide)) ?_
        have e9 : f_left s n w = ((yrX (sN s) (sN s) (tn n) 12), s) := by rw [f_left, if_pos hcq4, if_pos hcq13, e0] <;> rfl
        rw [e9] at hp
        exact e_iret dX11_left_89 rfl (hp _ ⟨hC, hF⟩)
      · refine e_top (nI 2) (by rw [e0]) ?_
        refine e_tableIn (off := 45) 90 dX11_left_45 (by decide) (by decide) (by decide) (by decide) ?_
        refine e_aload_n dX11_left_90 rfl ?_
        refine e_get dX11_left_91 fl_X11_26_11 hC.1 rfl ?_
        refine e_get dX11_left_94 fl_X11_239_4 hA.1.1 rfl ?_
        refine e_top (orF (openR (yrX (sN s) (sN s) (tn n))) (tcN (sN s))) (by unfold opB; rw [hEA.2.1]) ?_
        have e9 : f_left s n w = ((orF (openR (yrX (sN s) (sN s) (tn n))) (tcN (sN s))), s) := by rw [f_left, if_pos hcq4, if_pos hcq13, e0] <;> rfl
        rw [e9] at hp
        exact e_iret dX11_left_97 rfl (hp _ ⟨hC, hF⟩)
      · refine e_top (nI 3) (by rw [e0]) ?_
        refine e_tableOut 98 dX11_left_45 (by decide) (by decide) ?_
        refine e_aload_n dX11_left_98 rfl ?_
        refine e_get dX11_left_99 fl_X11_26_11 hC.1 rfl ?_
        refine c_V0iR (N := mX4_allComfort) dX11_left_102 lv_X11_242 mo_X4_allComfort hA.1.cn (Nat.le_of_ble_eq_true rfl) (Nat.le_of_ble_eq_true rfl) (by decide) (k_allComfort D hA.1 hIA ) ?_
        refine e_top ((sumF (cf2 (yrX (sN s) (sN s) (tn n)) (nvN (sN s)) (tcN (sN s))) (nvN (sN s)))) (by unfold cfN cf2; rw [hEA.1, hEA.2.1]) ?_
        have e9 : f_left s n w = ((sumF (cf2 (yrX (sN s) (sN s) (tn n)) (nvN (sN s)) (tcN (sN s))) (nvN (sN s))), s) := by rw [f_left, if_pos hcq4, if_pos hcq13, e0] <;> rfl
        rw [e9] at hp
        exact e_iret dX11_left_105 rfl (hp _ ⟨hC, hF⟩)
    · refine e_aload_n dX11_left_16 rfl ?_
      refine e_iconst (nI (1)) dX11_left_17 (by decide) ?_
      refine c_V1i (nc := 0) (ns := 0) (mc := 0) (ms := 0) (N := mX11_error) dX11_left_18 lv_X11_54 mo_X11_error hC.cn (Nat.le_of_ble_eq_true rfl) (Nat.le_of_ble_eq_true rfl) (by decide) (c_error D hC 1 (by decide)) (fun h hP => ?_)
      obtain ⟨hC, hF1⟩ := hP
      have hF := hF.trans hF1
      have e9 : f_left s n w = er 1 (s) := by rw [f_left, if_pos hcq4, if_neg hcq13]
      rw [e9] at hp
      exact e_iret dX11_left_21 rfl (hp _ ⟨hC, hF⟩)
set_option maxRecDepth 20000 in
theorem cp_then (D : En) {h : AH} {s : SS} (hI : INV s) (hC : ClsS h s) (n : Int32) (v : Int32) (w : Int32) : Sp D 8 mX11_then [.ref (11), .int (n), .int (v), .int (w)] h 0 0 (some (.int (f_then s n v w).1)) (fun h' => ClsS h' (f_then s n v w).2 ∧ FrC h h') := by
  have hY := hI.1.1
  have hnv := hY.2.1
  have htc10 := hY.2.2.2.1
  obtain ⟨h00, hh00⟩ : ∃ z, z = h := ⟨_, rfl⟩
  have hF : FrC h00 h := by rw [hh00]; exact FrC.rf
  intro post hp
  rw [← hh00] at hp
  show Ev D 8 mX11_then 0 [some (.ref (11)), some (.int (n)), some (.int (v)), some (.int (w))] [] h 0 0 post
  refine e_iload_n dX11_then_0 rfl ?_
  refine c_S1iR (N := mX11_isAhead) dX11_then_1 ls_X11_229 mo_X11_isAhead  (Nat.le_of_ble_eq_true rfl) (Nat.le_of_ble_eq_true rfl) (by decide) (c_isA D ((n))) ?_
  refine e_if_eqB 24 dX11_then_4 (by decide) (fun hcq4 => ?_) (fun hcq4 => ?_)
  · refine e_aload_n dX11_then_24 rfl ?_
    refine e_iconst (nI (1)) dX11_then_25 (by decide) ?_
    refine c_V1i (nc := 0) (ns := 0) (mc := 0) (ms := 0) (N := mX11_error) dX11_then_26 lv_X11_54 mo_X11_error hC.cn (Nat.le_of_ble_eq_true rfl) (Nat.le_of_ble_eq_true rfl) (by decide) (c_error D hC 1 (by decide)) (fun h hP => ?_)
    obtain ⟨hC, hF1⟩ := hP
    have hF := hF.trans hF1
    have e9 : f_then s n v w = er 1 (s) := by rw [f_then, if_neg hcq4]
    rw [e9] at hp
    exact e_iret dX11_then_29 rfl (hp _ ⟨hC, hF⟩)
  · obtain ⟨hn_n, hg_n, hl_n⟩ := wiN hcq4 (by decide) (by decide)
    refine e_aload_n dX11_then_7 rfl ?_
    refine e_iload_n dX11_then_8 rfl ?_
    refine c_V1iR (N := mX11_isVillage) dX11_then_9 lv_X11_68 mo_X11_isVillage hC.cn (Nat.le_of_ble_eq_true rfl) (Nat.le_of_ble_eq_true rfl) (by decide) (c_isV D hC ((v))) ?_
    refine e_if_eqB 24 dX11_then_12 (by decide) (fun hcq12 => ?_) (fun hcq12 => ?_)
    · refine e_aload_n dX11_then_24 rfl ?_
      refine e_iconst (nI (1)) dX11_then_25 (by decide) ?_
      refine c_V1i (nc := 0) (ns := 0) (mc := 0) (ms := 0) (N := mX11_error) dX11_then_26 lv_X11_54 mo_X11_error hC.cn (Nat.le_of_ble_eq_true rfl) (Nat.le_of_ble_eq_true rfl) (by decide) (c_error D hC 1 (by decide)) (fun h hP => ?_)
      obtain ⟨hC, hF1⟩ := hP
      have hF := hF.trans hF1
      have e9 : f_then s n v w = er 1 (s) := by rw [f_then, if_pos hcq4, if_neg hcq12]
      rw [e9] at hp
      exact e_iret dX11_then_29 rfl (hp _ ⟨hC, hF⟩)
    · obtain ⟨hn_v, hl_v⟩ := isN hcq12 hY.1 (by omega)
      refine e_iload_n dX11_then_15 rfl ?_
      refine e_iconst (nI (0)) dX11_then_16 (by decide) ?_
      refine e_iconst (nI (3)) dX11_then_17 (by decide) ?_
      refine c_S3iR (N := mX11_within) dX11_then_18 ls_X11_72 mo_X11_within  (Nat.le_of_ble_eq_true rfl) (Nat.le_of_ble_eq_true rfl) (by decide) (c_within D ((w)) (nI (0)) (nI (3))) ?_
      refine e_if_neB 30 dX11_then_21 (by decide) (fun hcq21 => ?_) (fun hcq21 => ?_)
      · obtain ⟨hn_w, hg_w, hl_w⟩ := wiN hcq21 (by decide) (by decide)
        refine e_aload_n dX11_then_30 rfl ?_
        refine e_get dX11_then_31 fl_X11_26_11 hC.1 rfl ?_
        refine e_aload_n dX11_then_34 rfl ?_
        refine e_get dX11_then_35 fl_X11_10_11 hC.1 rfl ?_
        refine e_get dX11_then_38 fl_X11_58_2 hC.2.1.1 rfl ?_
        refine c_V1v (nc := 0) (ns := 0) (mc := 0) (ms := 0) (N := mX4_copyFrom) dX11_then_41 lv_X11_232 mo_X4_copyFrom (Shp.cn hC.a44) (Nat.le_of_ble_eq_true rfl) (Nat.le_of_ble_eq_true rfl) (by decide) (c_cpA D hC hI.1) (fun h hP => ?_)
        obtain ⟨hC, hF1, hA, hTA, hZ9⟩ := hP
        have hF := hF.trans hF1
        have hIA := hI.1
        have hEA : E3 (sN s) (sN s) := ⟨rfl, rfl, rfl⟩
        refine e_aload_n dX11_then_44 rfl ?_
        refine e_get dX11_then_45 fl_X11_26_11 hC.1 rfl ?_
        refine e_iload_n dX11_then_48 rfl ?_
        refine e_top (nI (tn n)) (hn_n) ?_
        refine c_V1v (nc := 0) (ns := 0) (mc := 0) (ms := 0) (N := mX4_passYears) dX11_then_49 lv_X11_226 mo_X4_passYears hA.1.cn (Nat.le_of_ble_eq_true rfl) (Nat.le_of_ble_eq_true rfl) (by decide) (c_ysA D hC hA hIA hEA (tn n) (by omega)) (fun h hP => ?_)
        obtain ⟨hC, hF1, hA, hIA, hEA, hZ9⟩ := hP
        have hF := hF.trans hF1
        refine e_aload_n dX11_then_52 rfl ?_
        refine e_get dX11_then_53 fl_X11_26_11 hC.1 rfl ?_
        refine e_iload_n dX11_then_56 rfl ?_
        refine e_top (nI (tn v)) (hn_v) ?_
        refine e_iload_n dX11_then_57 rfl ?_
        refine e_top (nI (tn w)) (hn_w) ?_
        refine c_V2iR (N := mX4_peopleOf) dX11_then_58 lv_X11_79 mo_X4_peopleOf hA.1.cn (Nat.le_of_ble_eq_true rfl) (Nat.le_of_ble_eq_true rfl) (by decide) (k_peopleOf D hA.1 hIA (tn v) (tn w) (by omega) (by omega)) ?_
        have e9 : f_then s n v w = ((thV (yrX (sN s) (sN s) (tn n)) (tn v) (tn w)), s) := by rw [f_then, if_pos hcq4, if_pos hcq12, if_pos hcq21] <;> rfl
        rw [e9] at hp
        exact e_iret dX11_then_61 rfl (hp _ ⟨hC, hF⟩)
      · refine e_aload_n dX11_then_24 rfl ?_
        refine e_iconst (nI (1)) dX11_then_25 (by decide) ?_
        refine c_V1i (nc := 0) (ns := 0) (mc := 0) (ms := 0) (N := mX11_error) dX11_then_26 lv_X11_54 mo_X11_error hC.cn (Nat.le_of_ble_eq_true rfl) (Nat.le_of_ble_eq_true rfl) (by decide) (c_error D hC 1 (by decide)) (fun h hP => ?_)
        obtain ⟨hC, hF1⟩ := hP
        have hF := hF.trans hF1
        have e9 : f_then s n v w = er 1 (s) := by rw [f_then, if_pos hcq4, if_pos hcq12, if_neg hcq21]
        rw [e9] at hp
        exact e_iret dX11_then_29 rfl (hp _ ⟨hC, hF⟩)
set_option maxRecDepth 20000 in
theorem cl_falls (D : En) {s : SS} (hI : INV s) {h00 : AH} {post : Option Value → AH → Prop} (v n : Int32) (hn_v : v = nI (tn v)) (hl_v : tn v < nvN (sN s)) (hn_n : n = nI (tn n)) (hl_n : tn n ≤ 40) (hp : ∀ h', (ClsS h' ((if allR (yrN (sN s) (fsP (flP (sN s) (tn v)) (tn n) 0)) (tn v) = 0 then (nI (fsP (flP (sN s) (tn v)) (tn n) 0), s) else er 2 s)).2 ∧ FrC h00 h') → post (some (.int ((if allR (yrN (sN s) (fsP (flP (sN s) (tn v)) (tn n) 0)) (tn v) = 0 then (nI (fsP (flP (sN s) (tn v)) (tn n) 0), s) else er 2 s)).1)) h') : ∀ (j : Nat) (k : Nat) (h : AH), (k + j = tn n + 1) → (ClsS h s) → (FrC h00 h) → (LB h 46 (yrX (sN s) (sN s) k)) → (IN (yrX (sN s) (sN s) k)) → (E3 (yrX (sN s) (sN s) k) (sN s)) → (∀ i, i < k → ¬ flP (sN s) (tn v) i = true) → Ev D 7 mX11_falls 37 [some (.ref (11)), some (.int (v)), some (.int (n)), some (.int (nI (k)))] [] h 0 0 post := by
  have hY := hI.1.1
  have hnv := hY.2.1
  have htc10 := hY.2.2.2.1
  intro j
  induction j with
  | zero =>
    intro k h hm hC hF hA hIA hEA hN
    refine e_iload_n dX11_falls_37 rfl ?_
    refine e_iload_n dX11_falls_38 rfl ?_
    refine e_top (nI (tn n)) (hn_n) ?_
    refine e_icmp_gtN 68 dX11_falls_39 (by decide) (by omega) (by omega) (fun hcq39 => ?_) (fun hcq39 => absurd hcq39 (by omega))
    refine e_aload_n dX11_falls_68 rfl ?_
    refine e_iconst (nI (2)) dX11_falls_69 (by decide) ?_
    refine c_V1i (nc := 0) (ns := 0) (mc := 0) (ms := 0) (N := mX11_error) dX11_falls_70 lv_X11_54 mo_X11_error hC.cn (Nat.le_of_ble_eq_true rfl) (Nat.le_of_ble_eq_true rfl) (by decide) (c_error D hC 2 (by decide)) (fun h hP => ?_)
    obtain ⟨hC, hF1⟩ := hP
    have hF := hF.trans hF1
    have e8 : (if allR (yrN (sN s) (fsP (flP (sN s) (tn v)) (tn n) 0)) (tn v) = 0 then (nI (fsP (flP (sN s) (tn v)) (tn n) 0), s) else er 2 s) = er 2 s := by rw [fsP_miss (tn n) 0 (fun i a b => hN i (by omega)), Nat.zero_add, if_neg]; intro q; exact hN (tn n) (by omega) ((flP_iff (IN_yr hI.1 _) (by omega)).mpr q)
    rw [e8] at hp
    exact e_iret dX11_falls_73 rfl (hp _ ⟨hC, hF⟩)
  | succ j ih =>
    intro k h hm hC hF hA hIA hEA hN
    refine e_iload_n dX11_falls_37 rfl ?_
    refine e_iload_n dX11_falls_38 rfl ?_
    refine e_top (nI (tn n)) (hn_n) ?_
    refine e_icmp_gtN 68 dX11_falls_39 (by decide) (by omega) (by omega) (fun hcq39 => absurd hcq39 (by omega)) (fun hcq39 => ?_)
    refine e_aload_n dX11_falls_42 rfl ?_
    refine e_get dX11_falls_43 fl_X11_26_11 hC.1 rfl ?_
    refine e_iload_n dX11_falls_46 rfl ?_
    refine e_top (nI (tn v)) (hn_v) ?_
    refine c_V1iR (N := mX4_allOf) dX11_falls_47 lv_X11_245 mo_X4_allOf hA.1.cn (Nat.le_of_ble_eq_true rfl) (Nat.le_of_ble_eq_true rfl) (by decide) (k_allOf D hA.1 hIA (tn v) (by omega)) ?_
    refine e_if_ne 55 dX11_falls_50 (by decide) (fun hcq50 => ?_) (fun hcq50 => ?_)
    · have hIA0 := hIA
      refine e_aload_n dX11_falls_55 rfl ?_
      refine e_get dX11_falls_56 fl_X11_26_11 hC.1 rfl ?_
      refine c_V0v (nc := 0) (ns := 0) (mc := 0) (ms := 0) (N := mX4_passYear) dX11_falls_59 lv_X11_248 mo_X4_passYear hA.1.cn (Nat.le_of_ble_eq_true rfl) (Nat.le_of_ble_eq_true rfl) (by decide) (c_yA D hC hA hIA hEA) (fun h hP => ?_)
      obtain ⟨hC, hF1, hA, hIA, hEA, hTA, hZ9⟩ := hP
      have hF := hF.trans hF1
      refine e_iincN (k + 1) dX11_falls_62 rfl (by decide) (nI_add _ _) ?_
      refine e_goto 37 dX11_falls_65 (by decide) ?_
      exact ih (k + 1) _ (by omega) hC hF hA hIA hEA (fun i hi q => (Nat.lt_or_ge i k).elim (fun w => hN i w q) (fun w => hcq50 (by rw [show i = k by omega] at q; exact (flP_iff hIA0 (by omega)).mp q)))
    · refine e_iload_n dX11_falls_53 rfl ?_
      have e8 : (if allR (yrN (sN s) (fsP (flP (sN s) (tn v)) (tn n) 0)) (tn v) = 0 then (nI (fsP (flP (sN s) (tn v)) (tn n) 0), s) else er 2 s) = (nI k, s) := by rw [fsP_hit (P := flP (sN s) (tn v)) (tn n) 0 k (by omega) (by omega) (fun i a b => hN i b) ((flP_iff hIA (by omega)).mpr hcq50)]; exact if_pos hcq50
      rw [e8] at hp
      exact e_iret dX11_falls_54 rfl (hp _ ⟨hC, hF⟩)
set_option maxRecDepth 20000 in
theorem cp_falls (D : En) {h : AH} {s : SS} (hI : INV s) (hC : ClsS h s) (v : Int32) (n : Int32) : Sp D 7 mX11_falls [.ref (11), .int (v), .int (n)] h 0 0 (some (.int (f_falls s v n).1)) (fun h' => ClsS h' (f_falls s v n).2 ∧ FrC h h') := by
  have hY := hI.1.1
  have hnv := hY.2.1
  have htc10 := hY.2.2.2.1
  obtain ⟨h00, hh00⟩ : ∃ z, z = h := ⟨_, rfl⟩
  have hF : FrC h00 h := by rw [hh00]; exact FrC.rf
  intro post hp
  rw [← hh00] at hp
  show Ev D 7 mX11_falls 0 [some (.ref (11)), some (.int (v)), some (.int (n)), none] [] h 0 0 post
  refine e_aload_n dX11_falls_0 rfl ?_
  refine e_iload_n dX11_falls_1 rfl ?_
  refine c_V1iR (N := mX11_isVillage) dX11_falls_2 lv_X11_68 mo_X11_isVillage hC.cn (Nat.le_of_ble_eq_true rfl) (Nat.le_of_ble_eq_true rfl) (by decide) (c_isV D hC ((v))) ?_
  refine e_if_eqB 15 dX11_falls_5 (by decide) (fun hcq5 => ?_) (fun hcq5 => ?_)
  · refine e_aload_n dX11_falls_15 rfl ?_
    refine e_iconst (nI (1)) dX11_falls_16 (by decide) ?_
    refine c_V1i (nc := 0) (ns := 0) (mc := 0) (ms := 0) (N := mX11_error) dX11_falls_17 lv_X11_54 mo_X11_error hC.cn (Nat.le_of_ble_eq_true rfl) (Nat.le_of_ble_eq_true rfl) (by decide) (c_error D hC 1 (by decide)) (fun h hP => ?_)
    obtain ⟨hC, hF1⟩ := hP
    have hF := hF.trans hF1
    have e9 : f_falls s v n = er 1 (s) := by rw [f_falls, if_neg hcq5]
    rw [e9] at hp
    exact e_iret dX11_falls_20 rfl (hp _ ⟨hC, hF⟩)
  · obtain ⟨hn_v, hl_v⟩ := isN hcq5 hY.1 (by omega)
    refine e_iload_n dX11_falls_8 rfl ?_
    refine c_S1iR (N := mX11_isAhead) dX11_falls_9 ls_X11_229 mo_X11_isAhead  (Nat.le_of_ble_eq_true rfl) (Nat.le_of_ble_eq_true rfl) (by decide) (c_isA D ((n))) ?_
    refine e_if_neB 21 dX11_falls_12 (by decide) (fun hcq12 => ?_) (fun hcq12 => ?_)
    · obtain ⟨hn_n, hg_n, hl_n⟩ := wiN hcq12 (by decide) (by decide)
      refine e_aload_n dX11_falls_21 rfl ?_
      refine e_get dX11_falls_22 fl_X11_26_11 hC.1 rfl ?_
      refine e_aload_n dX11_falls_25 rfl ?_
      refine e_get dX11_falls_26 fl_X11_10_11 hC.1 rfl ?_
      refine e_get dX11_falls_29 fl_X11_58_2 hC.2.1.1 rfl ?_
      refine c_V1v (nc := 0) (ns := 0) (mc := 0) (ms := 0) (N := mX4_copyFrom) dX11_falls_32 lv_X11_232 mo_X4_copyFrom (Shp.cn hC.a44) (Nat.le_of_ble_eq_true rfl) (Nat.le_of_ble_eq_true rfl) (by decide) (c_cpA D hC hI.1) (fun h hP => ?_)
      obtain ⟨hC, hF1, hA, hTA, hZ9⟩ := hP
      have hF := hF.trans hF1
      have hIA := hI.1
      have hEA : E3 (sN s) (sN s) := ⟨rfl, rfl, rfl⟩
      refine e_iconst (nI (0)) dX11_falls_35 (by decide) ?_
      refine e_istore_n dX11_falls_36 (by decide) ?_
      have e9 : f_falls s v n = (if allR (yrN (sN s) (fsP (flP (sN s) (tn v)) (tn n) 0)) (tn v) = 0 then (nI (fsP (flP (sN s) (tn v)) (tn n) 0), s) else er 2 s) := by rw [f_falls, if_pos hcq5, if_pos hcq12]
      rw [e9] at hp
      exact cl_falls D hI v n hn_v hl_v hn_n hl_n hp (tn n + 1) 0 _ (by omega) hC hF hA hIA hEA (fun i hi => by omega)
    · refine e_aload_n dX11_falls_15 rfl ?_
      refine e_iconst (nI (1)) dX11_falls_16 (by decide) ?_
      refine c_V1i (nc := 0) (ns := 0) (mc := 0) (ms := 0) (N := mX11_error) dX11_falls_17 lv_X11_54 mo_X11_error hC.cn (Nat.le_of_ble_eq_true rfl) (Nat.le_of_ble_eq_true rfl) (by decide) (c_error D hC 1 (by decide)) (fun h hP => ?_)
      obtain ⟨hC, hF1⟩ := hP
      have hF := hF.trans hF1
      have e9 : f_falls s v n = er 1 (s) := by rw [f_falls, if_pos hcq5, if_neg hcq12]
      rw [e9] at hp
      exact e_iret dX11_falls_20 rfl (hp _ ⟨hC, hF⟩)
theorem brP_iff {N : Nat → Int32} {k : Nat} : brP N k = true ↔ yrX N N k 12 < 0 := by
  unfold brP
  rw [decide_eq_true_iff, show yrN N k = yrX N N k from rfl]
  exact Int32.not_le
set_option maxRecDepth 20000 in
theorem cl_broke (D : En) {s : SS} (hI : INV s) {h00 : AH} {post : Option Value → AH → Prop} (n : Int32) (hn_n : n = nI (tn n)) (hl_n : tn n ≤ 40) (hp : ∀ h', (ClsS h' ((if yrN (sN s) (fsP (brP (sN s)) (tn n) 0) 12 < 0 then (nI (fsP (brP (sN s)) (tn n) 0), s) else er 2 s)).2 ∧ FrC h00 h') → post (some (.int ((if yrN (sN s) (fsP (brP (sN s)) (tn n) 0) 12 < 0 then (nI (fsP (brP (sN s)) (tn n) 0), s) else er 2 s)).1)) h') : ∀ (j : Nat) (k : Nat) (h : AH), (k + j = tn n + 1) → (ClsS h s) → (FrC h00 h) → (LB h 46 (yrX (sN s) (sN s) k)) → (IN (yrX (sN s) (sN s) k)) → (E3 (yrX (sN s) (sN s) k) (sN s)) → (∀ i, i < k → ¬ brP (sN s) i = true) → Ev D 7 mX11_broke 29 [some (.ref (11)), some (.int (n)), some (.int (nI (k)))] [] h 0 0 post := by
  have hY := hI.1.1
  have hnv := hY.2.1
  have htc10 := hY.2.2.2.1
  intro j
  induction j with
  | zero =>
    intro k h hm hC hF hA hIA hEA hN
    refine e_iload_n dX11_broke_29 rfl ?_
    refine e_iload_n dX11_broke_30 rfl ?_
    refine e_top (nI (tn n)) (hn_n) ?_
    refine e_icmp_gtN 61 dX11_broke_31 (by decide) (by omega) (by omega) (fun hcq31 => ?_) (fun hcq31 => absurd hcq31 (by omega))
    refine e_aload_n dX11_broke_61 rfl ?_
    refine e_iconst (nI (2)) dX11_broke_62 (by decide) ?_
    refine c_V1i (nc := 0) (ns := 0) (mc := 0) (ms := 0) (N := mX11_error) dX11_broke_63 lv_X11_54 mo_X11_error hC.cn (Nat.le_of_ble_eq_true rfl) (Nat.le_of_ble_eq_true rfl) (by decide) (c_error D hC 2 (by decide)) (fun h hP => ?_)
    obtain ⟨hC, hF1⟩ := hP
    have hF := hF.trans hF1
    have e8 : (if yrN (sN s) (fsP (brP (sN s)) (tn n) 0) 12 < 0 then (nI (fsP (brP (sN s)) (tn n) 0), s) else er 2 s) = er 2 s := by rw [fsP_miss (tn n) 0 (fun i a b => hN i (by omega)), Nat.zero_add, if_neg]; intro q; exact hN (tn n) (by omega) (brP_iff.mpr q)
    rw [e8] at hp
    exact e_iret dX11_broke_66 rfl (hp _ ⟨hC, hF⟩)
  | succ j ih =>
    intro k h hm hC hF hA hIA hEA hN
    refine e_iload_n dX11_broke_29 rfl ?_
    refine e_iload_n dX11_broke_30 rfl ?_
    refine e_top (nI (tn n)) (hn_n) ?_
    refine e_icmp_gtN 61 dX11_broke_31 (by decide) (by omega) (by omega) (fun hcq31 => absurd hcq31 (by omega)) (fun hcq31 => ?_)
    refine e_aload_n dX11_broke_34 rfl ?_
    refine e_get dX11_broke_35 fl_X11_26_11 hC.1 rfl ?_
    obtain ⟨f7A, hr7A, he7A⟩ := hA.1.2.2.2.2.2.2.2.1
    refine e_get dX11_broke_38 fl_X11_220_4 hA.1.1 rfl ?_
    refine e_iconst (nI (5)) dX11_broke_41 (by decide) ?_
    refine e_ild (5) ((yrX (sN s) (sN s) k 12)) dX11_broke_42 hr7A rfl (by decide) (by decide) (he7A 5 (by decide)) ?_
    refine e_if_ge 48 dX11_broke_43 (by decide) (fun hcq43 => ?_) (fun hcq43 => ?_)
    · refine e_aload_n dX11_broke_48 rfl ?_
      refine e_get dX11_broke_49 fl_X11_26_11 hC.1 rfl ?_
      refine c_V0v (nc := 0) (ns := 0) (mc := 0) (ms := 0) (N := mX4_passYear) dX11_broke_52 lv_X11_248 mo_X4_passYear hA.1.cn (Nat.le_of_ble_eq_true rfl) (Nat.le_of_ble_eq_true rfl) (by decide) (c_yA D hC hA hIA hEA) (fun h hP => ?_)
      obtain ⟨hC, hF1, hA, hIA, hEA, hTA, hZ9⟩ := hP
      have hF := hF.trans hF1
      refine e_iincN (k + 1) dX11_broke_55 rfl (by decide) (nI_add _ _) ?_
      refine e_goto 29 dX11_broke_58 (by decide) ?_
      exact ih (k + 1) _ (by omega) hC hF hA hIA hEA (fun i hi q => (Nat.lt_or_ge i k).elim (fun w => hN i w q) (fun w => Int32.not_lt.mpr hcq43 (by rw [show i = k by omega] at q; exact brP_iff.mp q)))
    · refine e_iload_n dX11_broke_46 rfl ?_
      have e8 : (if yrN (sN s) (fsP (brP (sN s)) (tn n) 0) 12 < 0 then (nI (fsP (brP (sN s)) (tn n) 0), s) else er 2 s) = (nI k, s) := by rw [fsP_hit (P := brP (sN s)) (tn n) 0 k (by omega) (by omega) (fun i a b => hN i b) (brP_iff.mpr (Int32.not_le.mp hcq43))]; exact if_pos (Int32.not_le.mp hcq43)
      rw [e8] at hp
      exact e_iret dX11_broke_47 rfl (hp _ ⟨hC, hF⟩)
set_option maxRecDepth 20000 in
theorem cp_broke (D : En) {h : AH} {s : SS} (hI : INV s) (hC : ClsS h s) (n : Int32) : Sp D 7 mX11_broke [.ref (11), .int (n)] h 0 0 (some (.int (f_broke s n).1)) (fun h' => ClsS h' (f_broke s n).2 ∧ FrC h h') := by
  have hY := hI.1.1
  have hnv := hY.2.1
  have htc10 := hY.2.2.2.1
  obtain ⟨h00, hh00⟩ : ∃ z, z = h := ⟨_, rfl⟩
  have hF : FrC h00 h := by rw [hh00]; exact FrC.rf
  intro post hp
  rw [← hh00] at hp
  show Ev D 7 mX11_broke 0 [some (.ref (11)), some (.int (n)), none] [] h 0 0 post
  refine e_iload_n dX11_broke_0 rfl ?_
  refine c_S1iR (N := mX11_isAhead) dX11_broke_1 ls_X11_229 mo_X11_isAhead  (Nat.le_of_ble_eq_true rfl) (Nat.le_of_ble_eq_true rfl) (by decide) (c_isA D ((n))) ?_
  refine e_if_neB 13 dX11_broke_4 (by decide) (fun hcq4 => ?_) (fun hcq4 => ?_)
  · obtain ⟨hn_n, hg_n, hl_n⟩ := wiN hcq4 (by decide) (by decide)
    refine e_aload_n dX11_broke_13 rfl ?_
    refine e_get dX11_broke_14 fl_X11_26_11 hC.1 rfl ?_
    refine e_aload_n dX11_broke_17 rfl ?_
    refine e_get dX11_broke_18 fl_X11_10_11 hC.1 rfl ?_
    refine e_get dX11_broke_21 fl_X11_58_2 hC.2.1.1 rfl ?_
    refine c_V1v (nc := 0) (ns := 0) (mc := 0) (ms := 0) (N := mX4_copyFrom) dX11_broke_24 lv_X11_232 mo_X4_copyFrom (Shp.cn hC.a44) (Nat.le_of_ble_eq_true rfl) (Nat.le_of_ble_eq_true rfl) (by decide) (c_cpA D hC hI.1) (fun h hP => ?_)
    obtain ⟨hC, hF1, hA, hTA, hZ9⟩ := hP
    have hF := hF.trans hF1
    have hIA := hI.1
    have hEA : E3 (sN s) (sN s) := ⟨rfl, rfl, rfl⟩
    refine e_iconst (nI (0)) dX11_broke_27 (by decide) ?_
    refine e_istore_n dX11_broke_28 (by decide) ?_
    have e9 : f_broke s n = (if yrN (sN s) (fsP (brP (sN s)) (tn n) 0) 12 < 0 then (nI (fsP (brP (sN s)) (tn n) 0), s) else er 2 s) := by rw [f_broke, if_pos hcq4]
    rw [e9] at hp
    exact cl_broke D hI n hn_n hl_n hp (tn n + 1) 0 _ (by omega) hC hF hA hIA hEA (fun i hi => by omega)
  · refine e_aload_n dX11_broke_7 rfl ?_
    refine e_iconst (nI (1)) dX11_broke_8 (by decide) ?_
    refine c_V1i (nc := 0) (ns := 0) (mc := 0) (ms := 0) (N := mX11_error) dX11_broke_9 lv_X11_54 mo_X11_error hC.cn (Nat.le_of_ble_eq_true rfl) (Nat.le_of_ble_eq_true rfl) (by decide) (c_error D hC 1 (by decide)) (fun h hP => ?_)
    obtain ⟨hC, hF1⟩ := hP
    have hF := hF.trans hF1
    have e9 : f_broke s n = er 1 (s) := by rw [f_broke, if_neg hcq4]
    rw [e9] at hp
    exact e_iret dX11_broke_12 rfl (hp _ ⟨hC, hF⟩)
