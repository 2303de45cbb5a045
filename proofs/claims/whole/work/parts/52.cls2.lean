theorem or_0 (x : Int32) : x ||| nI 0 = x := bt_ext (fun i hi => by rw [bt_or, bt_0 i hi, Bool.or_false])
theorem add_0 (x : Int32) : x + nI 0 = x := Int32.add_zero x
def svF (N : Nat → Int32) (v : Nat) (x : Int32) (w : Nat) : Int32 := if wayR N v w ≤ x then nI 1 <<< (nI w &&& 31) else nI 0
theorem comT_open {N : Nat → Int32} {nv t v : Nat} (ho : N (112 + 7 * t + 5) = nI 1) (hv : v < 31) (hb : ¬ (servedR N nv t >>> (nI v &&& 31)) &&& nI 1 = 0) : comT G0 N nv v t = G0 (kdN N t) := by
  unfold comT svR
  rw [if_pos ho, if_pos]
  exact Decidable.of_not_not (fun z => hb ((tb01 hv).mpr z))
theorem comT_bit {N : Nat → Int32} {nv t v : Nat} (ho : N (112 + 7 * t + 5) = nI 1) (hv : v < 31) (hb : (servedR N nv t >>> (nI v &&& 31)) &&& nI 1 = 0) : comT G0 N nv v t = nI 0 := by
  unfold comT svR
  rw [if_pos ho, if_neg ((tb01 hv).mp hb)]
theorem comT_shut {N : Nat → Int32} {nv t v : Nat} (ho : ¬ N (112 + 7 * t + 5) = nI 1) (hv : v < 31) : comT G0 N nv v t = nI 0 := by
  unfold comT svR
  rw [if_neg ho, if_neg]
  rw [tb1 hv, bt_0 v (by omega)]
  decide
set_option maxRecDepth 20000 in
theorem k_isOpen (D : En) {h : AH} {a : Nat} {N : Nat → Int32} (hL : LandAt h a N) (hI : IN N) (t : Nat) (ht : t < tcN N) : Sp D 0 mX4_isOpen [.ref (a), .int (nI (t))] h 0 0 (some (.int (b2 (N (112 + 7 * t + 5) = nI 1)))) (fun h' => h' = h) := by
  obtain ⟨hLo, ⟨f1, hr1, he1⟩, ⟨f2, hr2, he2⟩, ⟨f3, hr3, he3⟩, ⟨T4, hr4, he4⟩, ⟨f5, hr5, he5⟩, ⟨f6, hr6, he6⟩, ⟨f7, hr7, he7⟩, ⟨R8, hr8, he8⟩, ⟨f9, hr9⟩, ⟨f10, hr10⟩, ⟨fG, hrG, heG⟩⟩ := id hL
  have hY := hI.1
  have hnv := hY.2.1
  have htc10 := hY.2.2.2.1
  intro post hp
  show Ev D 0 mX4_isOpen 0 [some (.ref (a)), some (.int (nI (t)))] [] h 0 0 post
  refine e_aload_n dX4_isOpen_0 rfl ?_
  refine e_get dX4_isOpen_1 fl_X4_24_4 hLo rfl ?_
  refine e_iload_n dX4_isOpen_4 rfl ?_
  refine e_ishr dX4_isOpen_5 ?_
  refine e_iconst (nI (1)) dX4_isOpen_6 (by decide) ?_
  refine e_iand dX4_isOpen_7 ?_
  refine e_if_eq 15 dX4_isOpen_8 (by decide) (fun hcq8 => ?_) (fun hcq8 => ?_)
  · refine e_iconst (nI (0)) dX4_isOpen_15 (by decide) ?_
    refine e_top (b2 (N (112 + 7 * t + 5) = nI 1)) (by first | exact (b2_f ((opB_t htc10 ht).mp hcq8)).symm | exact (b2_t (Decidable.of_not_not (fun zz => hcq8 ((opB_t htc10 ht).mpr zz)))).symm) ?_
    exact e_zretB dX4_isOpen_16 rfl (hp _ rfl)
  · refine e_iconst (nI (1)) dX4_isOpen_11 (by decide) ?_
    refine e_goto 16 dX4_isOpen_12 (by decide) ?_
    refine e_top (b2 (N (112 + 7 * t + 5) = nI 1)) (by first | exact (b2_f ((opB_t htc10 ht).mp hcq8)).symm | exact (b2_t (Decidable.of_not_not (fun zz => hcq8 ((opB_t htc10 ht).mpr zz)))).symm) ?_
    exact e_zretB dX4_isOpen_16 rfl (hp _ rfl)
set_option maxRecDepth 20000 in
theorem k_isMended (D : En) {h : AH} {a : Nat} {N : Nat → Int32} (hL : LandAt h a N) (hI : IN N) (v w : Nat) (hv : v < 8) (hw : w < 8) : Sp D 0 mX4_isMended [.ref (a), .int (nI (v)), .int (nI (w))] h 0 0 (some (.int (b2 (N (48 + 8 * v + w) = nI 1)))) (fun h' => h' = h) := by
  obtain ⟨hLo, ⟨f1, hr1, he1⟩, ⟨f2, hr2, he2⟩, ⟨f3, hr3, he3⟩, ⟨T4, hr4, he4⟩, ⟨f5, hr5, he5⟩, ⟨f6, hr6, he6⟩, ⟨f7, hr7, he7⟩, ⟨R8, hr8, he8⟩, ⟨f9, hr9⟩, ⟨f10, hr10⟩, ⟨fG, hrG, heG⟩⟩ := id hL
  have hY := hI.1
  have hnv := hY.2.1
  have htc10 := hY.2.2.2.1
  intro post hp
  show Ev D 0 mX4_isMended 0 [some (.ref (a)), some (.int (nI (v))), some (.int (nI (w)))] [] h 0 0 post
  refine e_aload_n dX4_isMended_0 rfl ?_
  refine e_get dX4_isMended_1 fl_X4_34_4 hLo rfl ?_
  refine e_iload_n dX4_isMended_4 rfl ?_
  refine e_ild (v) ((mdB N v)) dX4_isMended_5 hr3 rfl (by omega) (by decide) (he3 _ (by omega)) ?_
  refine e_iload_n dX4_isMended_6 rfl ?_
  refine e_ishr dX4_isMended_7 ?_
  refine e_iconst (nI (1)) dX4_isMended_8 (by decide) ?_
  refine e_iand dX4_isMended_9 ?_
  refine e_if_eq 17 dX4_isMended_10 (by decide) (fun hcq10 => ?_) (fun hcq10 => ?_)
  · refine e_iconst (nI (0)) dX4_isMended_17 (by decide) ?_
    refine e_top (b2 (N (48 + 8 * v + w) = nI 1)) (by first | exact (b2_f ((mdB_t hw).mp hcq10)).symm | exact (b2_t (Decidable.of_not_not (fun zz => hcq10 ((mdB_t hw).mpr zz)))).symm) ?_
    exact e_zretB dX4_isMended_18 rfl (hp _ rfl)
  · refine e_iconst (nI (1)) dX4_isMended_13 (by decide) ?_
    refine e_goto 18 dX4_isMended_14 (by decide) ?_
    refine e_top (b2 (N (48 + 8 * v + w) = nI 1)) (by first | exact (b2_f ((mdB_t hw).mp hcq10)).symm | exact (b2_t (Decidable.of_not_not (fun zz => hcq10 ((mdB_t hw).mpr zz)))).symm) ?_
    exact e_zretB dX4_isMended_18 rfl (hp _ rfl)
set_option maxRecDepth 20000 in
theorem k_wayOf (D : En) {h : AH} {a : Nat} {N : Nat → Int32} (hL : LandAt h a N) (hI : IN N) (v w : Nat) (hv : v < 8) (hw : w < 8) : Sp D 1 mX4_wayOf [.ref (a), .int (nI (v)), .int (nI (w))] h 0 0 (some (.int (wayR N v w))) (fun h' => h' = h) := by
  obtain ⟨hLo, ⟨f1, hr1, he1⟩, ⟨f2, hr2, he2⟩, ⟨f3, hr3, he3⟩, ⟨T4, hr4, he4⟩, ⟨f5, hr5, he5⟩, ⟨f6, hr6, he6⟩, ⟨f7, hr7, he7⟩, ⟨R8, hr8, he8⟩, ⟨f9, hr9⟩, ⟨f10, hr10⟩, ⟨fG, hrG, heG⟩⟩ := id hL
  have hY := hI.1
  have hnv := hY.2.1
  have htc10 := hY.2.2.2.1
  intro post hp
  show Ev D 1 mX4_wayOf 0 [some (.ref (a)), some (.int (nI (v))), some (.int (nI (w))), none, none, none] [] h 0 0 post
  refine e_aload_n dX4_wayOf_0 rfl ?_
  refine e_get dX4_wayOf_1 fl_X4_27_4 hLo rfl ?_
  refine e_iload_n dX4_wayOf_4 rfl ?_
  refine e_ild (v) ((N (16 + 4 * v))) dX4_wayOf_5 hr1 rfl (by omega) (by decide) (he1 _ (by omega)) ?_
  refine e_bipush (nI (100)) dX4_wayOf_6 (by decide) ?_
  refine e_idiv dX4_wayOf_8 (by decide) ?_
  refine e_aload_n dX4_wayOf_9 rfl ?_
  refine e_get dX4_wayOf_10 fl_X4_27_4 hLo rfl ?_
  refine e_iload_n dX4_wayOf_13 rfl ?_
  refine e_ild (w) ((N (16 + 4 * w))) dX4_wayOf_14 hr1 rfl (by omega) (by decide) (he1 _ (by omega)) ?_
  refine e_bipush (nI (100)) dX4_wayOf_15 (by decide) ?_
  refine e_idiv dX4_wayOf_17 (by decide) ?_
  refine e_isub dX4_wayOf_18 ?_
  refine e_mabs dX4_wayOf_19 mw_X4_92 (by decide) (Nat.le_of_ble_eq_true rfl) ?_
  refine e_istore_n dX4_wayOf_22 (by decide) ?_
  refine e_aload_n dX4_wayOf_23 rfl ?_
  refine e_get dX4_wayOf_24 fl_X4_27_4 hLo rfl ?_
  refine e_iload_n dX4_wayOf_27 rfl ?_
  refine e_ild (v) ((N (16 + 4 * v))) dX4_wayOf_28 hr1 rfl (by omega) (by decide) (he1 _ (by omega)) ?_
  refine e_bipush (nI (100)) dX4_wayOf_29 (by decide) ?_
  refine e_irem dX4_wayOf_31 (by decide) ?_
  refine e_aload_n dX4_wayOf_32 rfl ?_
  refine e_get dX4_wayOf_33 fl_X4_27_4 hLo rfl ?_
  refine e_iload_n dX4_wayOf_36 rfl ?_
  refine e_ild (w) ((N (16 + 4 * w))) dX4_wayOf_37 hr1 rfl (by omega) (by decide) (he1 _ (by omega)) ?_
  refine e_bipush (nI (100)) dX4_wayOf_38 (by decide) ?_
  refine e_irem dX4_wayOf_40 (by decide) ?_
  refine e_isub dX4_wayOf_41 ?_
  refine e_mabs dX4_wayOf_42 mw_X4_92 (by decide) (Nat.le_of_ble_eq_true rfl) ?_
  refine e_istore dX4_wayOf_45 (by decide) ?_
  refine e_iload_n dX4_wayOf_47 rfl ?_
  refine e_iload dX4_wayOf_48 rfl ?_
  refine e_iadd dX4_wayOf_50 ?_
  refine e_aload_n dX4_wayOf_51 rfl ?_
  refine e_get dX4_wayOf_52 fl_X4_15_4 hLo rfl ?_
  refine e_imul dX4_wayOf_55 ?_
  refine e_istore dX4_wayOf_56 (by decide) ?_
  refine e_aload_n dX4_wayOf_58 rfl ?_
  refine e_iload_n dX4_wayOf_59 rfl ?_
  refine e_iload_n dX4_wayOf_60 rfl ?_
  refine c_V2iR (N := mX4_isMended) dX4_wayOf_61 lv_X4_98 mo_X4_isMended hL.cn (Nat.le_of_ble_eq_true rfl) (Nat.le_of_ble_eq_true rfl) (by decide) (k_isMended D hL hI (v) (w) (by omega) (by omega)) ?_
  refine e_if_eqB 74 dX4_wayOf_64 (by decide) (fun hcq64 => ?_) (fun hcq64 => ?_)
  · refine e_iload dX4_wayOf_74 rfl ?_
    refine e_top (wayR N v w) (by unfold wayR; first | (rw [if_pos hcq64]; rfl) | (rw [if_neg hcq64]; rfl)) ?_
    exact e_iret dX4_wayOf_76 rfl (hp _ rfl)
  · refine e_iload dX4_wayOf_67 rfl ?_
    refine e_iconst (nI (2)) dX4_wayOf_69 (by decide) ?_
    refine e_idiv dX4_wayOf_70 (by decide) ?_
    refine e_goto 76 dX4_wayOf_71 (by decide) ?_
    refine e_top (wayR N v w) (by unfold wayR; first | (rw [if_pos hcq64]; rfl) | (rw [if_neg hcq64]; rfl)) ?_
    exact e_iret dX4_wayOf_76 rfl (hp _ rfl)
set_option maxRecDepth 20000 in
theorem kl_served (D : En) {h : AH} {a : Nat} {N : Nat → Int32} (hL : LandAt h a N) (hI : IN N) {post : Option Value → AH → Prop} (v : Nat) (hv : v < 8) (x : Int32) (hp : ∀ h', h' = h → post (some (.int (orF (svF N v x) (nvN N)))) h') : ∀ (j : Nat) (w : Nat) (ac : Int32), (w + j = nvN N) → (ac = orF (svF N v x) w) → Ev D 2 mX4_servedFrom 5 [some (.ref (a)), some (.int (nI (v))), some (.int (x)), some (.int (ac)), some (.int (nI (w)))] [] h 0 0 post := by
  obtain ⟨hLo, ⟨f1, hr1, he1⟩, ⟨f2, hr2, he2⟩, ⟨f3, hr3, he3⟩, ⟨T4, hr4, he4⟩, ⟨f5, hr5, he5⟩, ⟨f6, hr6, he6⟩, ⟨f7, hr7, he7⟩, ⟨R8, hr8, he8⟩, ⟨f9, hr9⟩, ⟨f10, hr10⟩, ⟨fG, hrG, heG⟩⟩ := id hL
  have hY := hI.1
  have hnv := hY.2.1
  have htc10 := hY.2.2.2.1
  intro j
  induction j with
  | zero =>
    intro w ac hm ha
    refine e_iload dX4_servedFrom_5 rfl ?_
    refine e_aload_n dX4_servedFrom_7 rfl ?_
    refine e_get dX4_servedFrom_8 fl_X4_18_4 hLo rfl ?_
    refine e_top (nI (nvN N)) hY.1 ?_
    refine e_icmp_geN 38 dX4_servedFrom_11 (by decide) (by omega) (by omega) (fun hcq11 => ?_) (fun hcq11 => absurd hcq11 (by omega))
    refine e_iload_n dX4_servedFrom_38 rfl ?_
    rw [show w = nvN N by omega] at ha
    exact e_iret dX4_servedFrom_39 rfl (by rw [ha]; exact hp _ rfl)
  | succ j ih =>
    intro w ac hm ha
    refine e_iload dX4_servedFrom_5 rfl ?_
    refine e_aload_n dX4_servedFrom_7 rfl ?_
    refine e_get dX4_servedFrom_8 fl_X4_18_4 hLo rfl ?_
    refine e_top (nI (nvN N)) hY.1 ?_
    refine e_icmp_geN 38 dX4_servedFrom_11 (by decide) (by omega) (by omega) (fun hcq11 => absurd hcq11 (by omega)) (fun hcq11 => ?_)
    refine e_aload_n dX4_servedFrom_14 rfl ?_
    refine e_iload_n dX4_servedFrom_15 rfl ?_
    refine e_iload dX4_servedFrom_16 rfl ?_
    refine c_V2iR (N := mX4_wayOf) dX4_servedFrom_18 lv_X4_102 mo_X4_wayOf hL.cn (Nat.le_of_ble_eq_true rfl) (Nat.le_of_ble_eq_true rfl) (by decide) (k_wayOf D hL hI (v) (w) (by omega) (by omega)) ?_
    refine e_iload_n dX4_servedFrom_21 rfl ?_
    refine e_icmp_gt 32 dX4_servedFrom_22 (by decide) (fun hcq22 => ?_) (fun hcq22 => ?_)
    · refine e_iincN (w + 1) dX4_servedFrom_32 rfl (by decide) (nI_add _ _) ?_
      refine e_goto 5 dX4_servedFrom_35 (by decide) ?_
      exact ih (w + 1) _ (by omega) (by rw [orF, ← ha, svF]; first | (rw [if_pos (Int32.not_lt.mp hcq22)]; done) | (rw [if_neg (Int32.not_le.mpr hcq22), or_0]; done))
    · refine e_iload_n dX4_servedFrom_25 rfl ?_
      refine e_iconst (nI (1)) dX4_servedFrom_26 (by decide) ?_
      refine e_iload dX4_servedFrom_27 rfl ?_
      refine e_ishl dX4_servedFrom_29 ?_
      refine e_ior dX4_servedFrom_30 ?_
      refine e_istore_n dX4_servedFrom_31 (by decide) ?_
      refine e_iincN (w + 1) dX4_servedFrom_32 rfl (by decide) (nI_add _ _) ?_
      refine e_goto 5 dX4_servedFrom_35 (by decide) ?_
      exact ih (w + 1) _ (by omega) (by rw [orF, ← ha, svF]; first | (rw [if_pos (Int32.not_lt.mp hcq22)]; done) | (rw [if_neg (Int32.not_le.mpr hcq22), or_0]; done))
set_option maxRecDepth 20000 in
theorem k_servedFrom (D : En) {h : AH} {a : Nat} {N : Nat → Int32} (hL : LandAt h a N) (hI : IN N) (v : Nat) (hv : v < 8) (x : Int32) : Sp D 2 mX4_servedFrom [.ref (a), .int (nI (v)), .int (x)] h 0 0 (some (.int (orF (svF N v x) (nvN N)))) (fun h' => h' = h) := by
  obtain ⟨hLo, ⟨f1, hr1, he1⟩, ⟨f2, hr2, he2⟩, ⟨f3, hr3, he3⟩, ⟨T4, hr4, he4⟩, ⟨f5, hr5, he5⟩, ⟨f6, hr6, he6⟩, ⟨f7, hr7, he7⟩, ⟨R8, hr8, he8⟩, ⟨f9, hr9⟩, ⟨f10, hr10⟩, ⟨fG, hrG, heG⟩⟩ := id hL
  have hY := hI.1
  have hnv := hY.2.1
  have htc10 := hY.2.2.2.1
  intro post hp
  show Ev D 2 mX4_servedFrom 0 [some (.ref (a)), some (.int (nI (v))), some (.int (x)), none, none] [] h 0 0 post
  refine e_iconst (nI (0)) dX4_servedFrom_0 (by decide) ?_
  refine e_istore_n dX4_servedFrom_1 (by decide) ?_
  refine e_iconst (nI (0)) dX4_servedFrom_2 (by decide) ?_
  refine e_istore dX4_servedFrom_3 (by decide) ?_
  exact kl_served D hL hI v hv x hp (nvN N) 0 _ (by omega) rfl
set_option maxRecDepth 20000 in
theorem k_allOf (D : En) {h : AH} {a : Nat} {N : Nat → Int32} (hL : LandAt h a N) (hI : IN N) (v : Nat) (hv : v < 8) : Sp D 0 mX4_allOf [.ref (a), .int (nI (v))] h 0 0 (some (.int (allR N v))) (fun h' => h' = h) := by
  obtain ⟨hLo, ⟨f1, hr1, he1⟩, ⟨f2, hr2, he2⟩, ⟨f3, hr3, he3⟩, ⟨T4, hr4, he4⟩, ⟨f5, hr5, he5⟩, ⟨f6, hr6, he6⟩, ⟨f7, hr7, he7⟩, ⟨R8, hr8, he8⟩, ⟨f9, hr9⟩, ⟨f10, hr10⟩, ⟨fG, hrG, heG⟩⟩ := id hL
  have hY := hI.1
  have hnv := hY.2.1
  have htc10 := hY.2.2.2.1
  intro post hp
  show Ev D 0 mX4_allOf 0 [some (.ref (a)), some (.int (nI (v))), none] [] h 0 0 post
  refine e_iconst (nI (3)) dX4_allOf_0 (by decide) ?_
  refine e_iload_n dX4_allOf_1 rfl ?_
  refine e_imulN dX4_allOf_2 ?_
  refine e_istore_n dX4_allOf_3 (by decide) ?_
  refine e_aload_n dX4_allOf_4 rfl ?_
  refine e_get dX4_allOf_5 fl_X4_31_4 hLo rfl ?_
  refine e_iload_n dX4_allOf_8 rfl ?_
  refine e_iconst (nI (0)) dX4_allOf_9 (by decide) ?_
  refine e_iaddN dX4_allOf_10 ?_
  refine e_ild ((3 * v) + 0) ((N (16 + 4 * v + 1 + 0))) dX4_allOf_11 hr2 rfl (by omega) (by decide) (he2 _ (by omega) _ (by omega)) ?_
  refine e_aload_n dX4_allOf_12 rfl ?_
  refine e_get dX4_allOf_13 fl_X4_31_4 hLo rfl ?_
  refine e_iload_n dX4_allOf_16 rfl ?_
  refine e_iconst (nI (1)) dX4_allOf_17 (by decide) ?_
  refine e_iaddN dX4_allOf_18 ?_
  refine e_ild ((3 * v) + 1) ((N (16 + 4 * v + 1 + 1))) dX4_allOf_19 hr2 rfl (by omega) (by decide) (he2 _ (by omega) _ (by omega)) ?_
  refine e_iadd dX4_allOf_20 ?_
  refine e_aload_n dX4_allOf_21 rfl ?_
  refine e_get dX4_allOf_22 fl_X4_31_4 hLo rfl ?_
  refine e_iload_n dX4_allOf_25 rfl ?_
  refine e_iconst (nI (2)) dX4_allOf_26 (by decide) ?_
  refine e_iaddN dX4_allOf_27 ?_
  refine e_ild ((3 * v) + 2) ((N (16 + 4 * v + 1 + 2))) dX4_allOf_28 hr2 rfl (by omega) (by decide) (he2 _ (by omega) _ (by omega)) ?_
  refine e_iadd dX4_allOf_29 ?_
  exact e_iret dX4_allOf_30 rfl (hp _ rfl)
set_option maxRecDepth 20000 in
theorem k_peopleOf (D : En) {h : AH} {a : Nat} {N : Nat → Int32} (hL : LandAt h a N) (hI : IN N) (v w : Nat) (hv : v < 8) (hw : w < 4) : Sp D 1 mX4_peopleOf [.ref (a), .int (nI (v)), .int (nI (w))] h 0 0 (some (.int (thV N v w))) (fun h' => h' = h) := by
  obtain ⟨hLo, ⟨f1, hr1, he1⟩, ⟨f2, hr2, he2⟩, ⟨f3, hr3, he3⟩, ⟨T4, hr4, he4⟩, ⟨f5, hr5, he5⟩, ⟨f6, hr6, he6⟩, ⟨f7, hr7, he7⟩, ⟨R8, hr8, he8⟩, ⟨f9, hr9⟩, ⟨f10, hr10⟩, ⟨fG, hrG, heG⟩⟩ := id hL
  have hY := hI.1
  have hnv := hY.2.1
  have htc10 := hY.2.2.2.1
  intro post hp
  show Ev D 1 mX4_peopleOf 0 [some (.ref (a)), some (.int (nI (v))), some (.int (nI (w)))] [] h 0 0 post
  refine e_iload_n dX4_peopleOf_0 rfl ?_
  refine e_iconst (nI (3)) dX4_peopleOf_1 (by decide) ?_
  refine e_icmp_neN 13 dX4_peopleOf_2 (by decide) (by omega) (by omega) (fun hcq2 => ?_) (fun hcq2 => ?_)
  · refine e_aload_n dX4_peopleOf_13 rfl ?_
    refine e_get dX4_peopleOf_14 fl_X4_31_4 hLo rfl ?_
    refine e_iconst (nI (3)) dX4_peopleOf_17 (by decide) ?_
    refine e_iload_n dX4_peopleOf_18 rfl ?_
    refine e_imulN dX4_peopleOf_19 ?_
    refine e_iload_n dX4_peopleOf_20 rfl ?_
    refine e_iaddN dX4_peopleOf_21 ?_
    refine e_ild ((3 * v) + w) ((N (16 + 4 * v + 1 + w))) dX4_peopleOf_22 hr2 rfl (by omega) (by decide) (he2 _ (by omega) _ (by omega)) ?_
    refine e_top (thV N v w) (by unfold thV; first | (rw [if_pos hcq2]; done) | (rw [if_neg hcq2]; done)) ?_
    exact e_iret dX4_peopleOf_23 rfl (hp _ rfl)
  · refine e_aload_n dX4_peopleOf_5 rfl ?_
    refine e_iload_n dX4_peopleOf_6 rfl ?_
    refine c_V1iR (N := mX4_allOf) dX4_peopleOf_7 lv_X4_115 mo_X4_allOf hL.cn (Nat.le_of_ble_eq_true rfl) (Nat.le_of_ble_eq_true rfl) (by decide) (k_allOf D hL hI (v) (by omega)) ?_
    refine e_goto 23 dX4_peopleOf_10 (by decide) ?_
    refine e_top (thV N v w) (by unfold thV; first | (rw [if_pos hcq2]; done) | (rw [if_neg hcq2]; done)) ?_
    exact e_iret dX4_peopleOf_23 rfl (hp _ rfl)
set_option maxRecDepth 20000 in
theorem kl_allPeople (D : En) {h : AH} {a : Nat} {N : Nat → Int32} (hL : LandAt h a N) (hI : IN N) {post : Option Value → AH → Prop} (hp : ∀ h', h' = h → post (some (.int (ppN N (nvN N)))) h') : ∀ (j : Nat) (v : Nat) (ac : Int32), (v + j = nvN N) → (ac = sumF (allR N) v) → Ev D 1 mX4_allPeople 4 [some (.ref (a)), some (.int (ac)), some (.int (nI (v)))] [] h 0 0 post := by
  obtain ⟨hLo, ⟨f1, hr1, he1⟩, ⟨f2, hr2, he2⟩, ⟨f3, hr3, he3⟩, ⟨T4, hr4, he4⟩, ⟨f5, hr5, he5⟩, ⟨f6, hr6, he6⟩, ⟨f7, hr7, he7⟩, ⟨R8, hr8, he8⟩, ⟨f9, hr9⟩, ⟨f10, hr10⟩, ⟨fG, hrG, heG⟩⟩ := id hL
  have hY := hI.1
  have hnv := hY.2.1
  have htc10 := hY.2.2.2.1
  intro j
  induction j with
  | zero =>
    intro v ac hm ha
    refine e_iload_n dX4_allPeople_4 rfl ?_
    refine e_aload_n dX4_allPeople_5 rfl ?_
    refine e_get dX4_allPeople_6 fl_X4_18_4 hLo rfl ?_
    refine e_top (nI (nvN N)) hY.1 ?_
    refine e_icmp_geN 26 dX4_allPeople_9 (by decide) (by omega) (by omega) (fun hcq9 => ?_) (fun hcq9 => absurd hcq9 (by omega))
    refine e_iload_n dX4_allPeople_26 rfl ?_
    rw [show v = nvN N by omega] at ha
    exact e_iret dX4_allPeople_27 rfl (by rw [ha]; exact hp _ rfl)
  | succ j ih =>
    intro v ac hm ha
    refine e_iload_n dX4_allPeople_4 rfl ?_
    refine e_aload_n dX4_allPeople_5 rfl ?_
    refine e_get dX4_allPeople_6 fl_X4_18_4 hLo rfl ?_
    refine e_top (nI (nvN N)) hY.1 ?_
    refine e_icmp_geN 26 dX4_allPeople_9 (by decide) (by omega) (by omega) (fun hcq9 => absurd hcq9 (by omega)) (fun hcq9 => ?_)
    refine e_iload_n dX4_allPeople_12 rfl ?_
    refine e_aload_n dX4_allPeople_13 rfl ?_
    refine e_iload_n dX4_allPeople_14 rfl ?_
    refine c_V1iR (N := mX4_allOf) dX4_allPeople_15 lv_X4_115 mo_X4_allOf hL.cn (Nat.le_of_ble_eq_true rfl) (Nat.le_of_ble_eq_true rfl) (by decide) (k_allOf D hL hI (v) (by omega)) ?_
    refine e_iadd dX4_allPeople_18 ?_
    refine e_istore_n dX4_allPeople_19 (by decide) ?_
    refine e_iincN (v + 1) dX4_allPeople_20 rfl (by decide) (nI_add _ _) ?_
    refine e_goto 4 dX4_allPeople_23 (by decide) ?_
    exact ih (v + 1) _ (by omega) (by rw [sumF, ← ha])
set_option maxRecDepth 20000 in
theorem k_allPeople (D : En) {h : AH} {a : Nat} {N : Nat → Int32} (hL : LandAt h a N) (hI : IN N) : Sp D 1 mX4_allPeople [.ref (a)] h 0 0 (some (.int (ppN N (nvN N)))) (fun h' => h' = h) := by
  obtain ⟨hLo, ⟨f1, hr1, he1⟩, ⟨f2, hr2, he2⟩, ⟨f3, hr3, he3⟩, ⟨T4, hr4, he4⟩, ⟨f5, hr5, he5⟩, ⟨f6, hr6, he6⟩, ⟨f7, hr7, he7⟩, ⟨R8, hr8, he8⟩, ⟨f9, hr9⟩, ⟨f10, hr10⟩, ⟨fG, hrG, heG⟩⟩ := id hL
  have hY := hI.1
  have hnv := hY.2.1
  have htc10 := hY.2.2.2.1
  intro post hp
  show Ev D 1 mX4_allPeople 0 [some (.ref (a)), none, none] [] h 0 0 post
  refine e_iconst (nI (0)) dX4_allPeople_0 (by decide) ?_
  refine e_istore_n dX4_allPeople_1 (by decide) ?_
  refine e_iconst (nI (0)) dX4_allPeople_2 (by decide) ?_
  refine e_istore_n dX4_allPeople_3 (by decide) ?_
  exact kl_allPeople D hL hI hp (nvN N) 0 _ (by omega) rfl
set_option maxRecDepth 20000 in
theorem kl_costOf (D : En) {h : AH} {a : Nat} {N : Nat → Int32} (hL : LandAt h a N) (hI : IN N) {post : Option Value → AH → Prop} (e : Int32) (hp : ∀ h', h' = h → post (some (.int (sumF (kpK N e) (tcN N)))) h') : ∀ (j : Nat) (t : Nat) (ac : Int32), (t + j = tcN N) → (ac = sumF (kpK N e) t) → Ev D 0 mX4_costOf 4 [some (.ref (a)), some (.int (e)), some (.int (ac)), some (.int (nI (t)))] [] h 0 0 post := by
  obtain ⟨hLo, ⟨f1, hr1, he1⟩, ⟨f2, hr2, he2⟩, ⟨f3, hr3, he3⟩, ⟨T4, hr4, he4⟩, ⟨f5, hr5, he5⟩, ⟨f6, hr6, he6⟩, ⟨f7, hr7, he7⟩, ⟨R8, hr8, he8⟩, ⟨f9, hr9⟩, ⟨f10, hr10⟩, ⟨fG, hrG, heG⟩⟩ := id hL
  have hY := hI.1
  have hnv := hY.2.1
  have htc10 := hY.2.2.2.1
  intro j
  induction j with
  | zero =>
    intro t ac hm ha
    refine e_iload_n dX4_costOf_4 rfl ?_
    refine e_aload_n dX4_costOf_5 rfl ?_
    refine e_get dX4_costOf_6 fl_X4_21_4 hLo rfl ?_
    refine e_top (nI (tcN N)) hY.2.2.1 ?_
    refine e_icmp_geN 38 dX4_costOf_9 (by decide) (by omega) (by omega) (fun hcq9 => ?_) (fun hcq9 => absurd hcq9 (by omega))
    refine e_iload_n dX4_costOf_38 rfl ?_
    rw [show t = tcN N by omega] at ha
    exact e_iret dX4_costOf_39 rfl (by rw [ha]; exact hp _ rfl)
  | succ j ih =>
    intro t ac hm ha
    refine e_iload_n dX4_costOf_4 rfl ?_
    refine e_aload_n dX4_costOf_5 rfl ?_
    refine e_get dX4_costOf_6 fl_X4_21_4 hLo rfl ?_
    refine e_top (nI (tcN N)) hY.2.2.1 ?_
    refine e_icmp_geN 38 dX4_costOf_9 (by decide) (by omega) (by omega) (fun hcq9 => absurd hcq9 (by omega)) (fun hcq9 => ?_)
    refine e_iload_n dX4_costOf_12 rfl ?_
    refine e_iload_n dX4_costOf_13 rfl ?_
    refine e_ishr dX4_costOf_14 ?_
    refine e_iconst (nI (1)) dX4_costOf_15 (by decide) ?_
    refine e_iand dX4_costOf_16 ?_
    refine e_if_eq 32 dX4_costOf_17 (by decide) (fun hcq17 => ?_) (fun hcq17 => ?_)
    · refine e_iincN (t + 1) dX4_costOf_32 rfl (by decide) (nI_add _ _) ?_
      refine e_goto 4 dX4_costOf_35 (by decide) ?_
      exact ih (t + 1) _ (by omega) (by rw [sumF, ← ha, kpK]; first | (rw [if_pos (Decidable.of_not_not (fun zz => hcq17 ((tb01 (by omega)).mpr zz)))]; done) | (rw [if_neg ((tb01 (by omega)).mp hcq17), add_0]; done))
    · refine e_iload_n dX4_costOf_20 rfl ?_
      refine e_aload_n dX4_costOf_21 rfl ?_
      refine e_get dX4_costOf_22 fl_X4_39_4 hLo rfl ?_
      refine e_iload_n dX4_costOf_25 rfl ?_
      obtain ⟨b26, hTb26, hb26⟩ := he4 (t) (by omega)
      refine e_ald (v := some b26) (t) dX4_costOf_26 hr4 (Or.inl rfl) rfl (by omega) (by decide) hTb26 ?_
      refine tf_get2 dX4_costOf_27 tl_X4_123 hb26 ?_
      refine e_iadd dX4_costOf_30 ?_
      refine e_istore_n dX4_costOf_31 (by decide) ?_
      refine e_iincN (t + 1) dX4_costOf_32 rfl (by decide) (nI_add _ _) ?_
      refine e_goto 4 dX4_costOf_35 (by decide) ?_
      exact ih (t + 1) _ (by omega) (by rw [sumF, ← ha, kpK]; first | (rw [if_pos (Decidable.of_not_not (fun zz => hcq17 ((tb01 (by omega)).mpr zz)))]; done) | (rw [if_neg ((tb01 (by omega)).mp hcq17), add_0]; done))
set_option maxRecDepth 20000 in
theorem k_costOf (D : En) {h : AH} {a : Nat} {N : Nat → Int32} (hL : LandAt h a N) (hI : IN N) (e : Int32) : Sp D 0 mX4_costOf [.ref (a), .int (e)] h 0 0 (some (.int (sumF (kpK N e) (tcN N)))) (fun h' => h' = h) := by
  obtain ⟨hLo, ⟨f1, hr1, he1⟩, ⟨f2, hr2, he2⟩, ⟨f3, hr3, he3⟩, ⟨T4, hr4, he4⟩, ⟨f5, hr5, he5⟩, ⟨f6, hr6, he6⟩, ⟨f7, hr7, he7⟩, ⟨R8, hr8, he8⟩, ⟨f9, hr9⟩, ⟨f10, hr10⟩, ⟨fG, hrG, heG⟩⟩ := id hL
  have hY := hI.1
  have hnv := hY.2.1
  have htc10 := hY.2.2.2.1
  intro post hp
  show Ev D 0 mX4_costOf 0 [some (.ref (a)), some (.int (e)), none, none] [] h 0 0 post
  refine e_iconst (nI (0)) dX4_costOf_0 (by decide) ?_
  refine e_istore_n dX4_costOf_1 (by decide) ?_
  refine e_iconst (nI (0)) dX4_costOf_2 (by decide) ?_
  refine e_istore_n dX4_costOf_3 (by decide) ?_
  exact kl_costOf D hL hI e hp (tcN N) 0 _ (by omega) rfl
set_option maxRecDepth 20000 in
theorem kl_comfortOf (D : En) {h : AH} {a : Nat} {N : Nat → Int32} (hL : LandAt h a N) (hI : IN N) {post : Option Value → AH → Prop} (v : Nat) (hv : v < 8) (hp : ∀ h', h' = h → post (some (.int (cfN N v))) h') : ∀ (j : Nat) (t : Nat) (ac : Int32), (t + j = tcN N) → (ac = sumF (comT G0 N (nvN N) v) t) → Ev D 4 mX4_comfortOf 4 [some (.ref (a)), some (.int (nI (v))), some (.int (ac)), some (.int (nI (t)))] [] h 0 0 post := by
  obtain ⟨hLo, ⟨f1, hr1, he1⟩, ⟨f2, hr2, he2⟩, ⟨f3, hr3, he3⟩, ⟨T4, hr4, he4⟩, ⟨f5, hr5, he5⟩, ⟨f6, hr6, he6⟩, ⟨f7, hr7, he7⟩, ⟨R8, hr8, he8⟩, ⟨f9, hr9⟩, ⟨f10, hr10⟩, ⟨fG, hrG, heG⟩⟩ := id hL
  have hY := hI.1
  have hnv := hY.2.1
  have htc10 := hY.2.2.2.1
  intro j
  induction j with
  | zero =>
    intro t ac hm ha
    refine e_iload_n dX4_comfortOf_4 rfl ?_
    refine e_aload_n dX4_comfortOf_5 rfl ?_
    refine e_get dX4_comfortOf_6 fl_X4_21_4 hLo rfl ?_
    refine e_top (nI (tcN N)) hY.2.2.1 ?_
    refine e_icmp_geN 48 dX4_comfortOf_9 (by decide) (by omega) (by omega) (fun hcq9 => ?_) (fun hcq9 => absurd hcq9 (by omega))
    refine e_iload_n dX4_comfortOf_48 rfl ?_
    rw [show t = tcN N by omega] at ha
    exact e_iret dX4_comfortOf_49 rfl (by rw [ha]; exact hp _ rfl)
  | succ j ih =>
    intro t ac hm ha
    refine e_iload_n dX4_comfortOf_4 rfl ?_
    refine e_aload_n dX4_comfortOf_5 rfl ?_
    refine e_get dX4_comfortOf_6 fl_X4_21_4 hLo rfl ?_
    refine e_top (nI (tcN N)) hY.2.2.1 ?_
    refine e_icmp_geN 48 dX4_comfortOf_9 (by decide) (by omega) (by omega) (fun hcq9 => absurd hcq9 (by omega)) (fun hcq9 => ?_)
    refine e_aload_n dX4_comfortOf_12 rfl ?_
    refine e_iload_n dX4_comfortOf_13 rfl ?_
    refine c_V1iR (N := mX4_isOpen) dX4_comfortOf_14 lv_X4_126 mo_X4_isOpen hL.cn (Nat.le_of_ble_eq_true rfl) (Nat.le_of_ble_eq_true rfl) (by decide) (k_isOpen D hL hI (t) (by omega)) ?_
    refine e_if_eqB 42 dX4_comfortOf_17 (by decide) (fun hcq17 => ?_) (fun hcq17 => ?_)
    · refine e_iincN (t + 1) dX4_comfortOf_42 rfl (by decide) (nI_add _ _) ?_
      refine e_goto 4 dX4_comfortOf_45 (by decide) ?_
      exact ih (t + 1) _ (by omega) (by rw [sumF, ← ha]; first | (rw [comT_shut hcq17 (by omega), add_0]; done) | (rw [comT_bit hcq17 (by omega) hcq30, add_0]; done) | (rw [comT_open hcq17 (by omega) hcq30]; done))
    · refine e_aload_n dX4_comfortOf_20 rfl ?_
      refine e_get dX4_comfortOf_21 fl_X4_46_4 hLo rfl ?_
      refine e_iload_n dX4_comfortOf_24 rfl ?_
      refine e_ild (t) ((servedR N (nvN N) t)) dX4_comfortOf_25 hr6 rfl (by omega) (by decide) (he6 _ (by omega)) ?_
      refine e_iload_n dX4_comfortOf_26 rfl ?_
      refine e_ishr dX4_comfortOf_27 ?_
      refine e_iconst (nI (1)) dX4_comfortOf_28 (by decide) ?_
      refine e_iand dX4_comfortOf_29 ?_
      refine e_if_eq 42 dX4_comfortOf_30 (by decide) (fun hcq30 => ?_) (fun hcq30 => ?_)
      · refine e_iincN (t + 1) dX4_comfortOf_42 rfl (by decide) (nI_add _ _) ?_
        refine e_goto 4 dX4_comfortOf_45 (by decide) ?_
        exact ih (t + 1) _ (by omega) (by rw [sumF, ← ha]; first | (rw [comT_shut hcq17 (by omega), add_0]; done) | (rw [comT_bit hcq17 (by omega) hcq30, add_0]; done) | (rw [comT_open hcq17 (by omega) hcq30]; done))
      · refine e_iload_n dX4_comfortOf_33 rfl ?_
        refine e_aload_n dX4_comfortOf_34 rfl ?_
        refine e_get dX4_comfortOf_35 fl_X4_49_4 hLo rfl ?_
        refine e_iload_n dX4_comfortOf_38 rfl ?_
        refine e_ild (t) (G0 (kdN N t)) dX4_comfortOf_39 hrG rfl (by omega) (by decide) (heG _ (by omega)) ?_
        refine e_iadd dX4_comfortOf_40 ?_
        refine e_istore_n dX4_comfortOf_41 (by decide) ?_
        refine e_iincN (t + 1) dX4_comfortOf_42 rfl (by decide) (nI_add _ _) ?_
        refine e_goto 4 dX4_comfortOf_45 (by decide) ?_
        exact ih (t + 1) _ (by omega) (by rw [sumF, ← ha]; first | (rw [comT_shut hcq17 (by omega), add_0]; done) | (rw [comT_bit hcq17 (by omega) hcq30, add_0]; done) | (rw [comT_open hcq17 (by omega) hcq30]; done))
set_option maxRecDepth 20000 in
theorem k_comfortOf (D : En) {h : AH} {a : Nat} {N : Nat → Int32} (hL : LandAt h a N) (hI : IN N) (v : Nat) (hv : v < 8) : Sp D 4 mX4_comfortOf [.ref (a), .int (nI (v))] h 0 0 (some (.int (cfN N v))) (fun h' => h' = h) := by
  obtain ⟨hLo, ⟨f1, hr1, he1⟩, ⟨f2, hr2, he2⟩, ⟨f3, hr3, he3⟩, ⟨T4, hr4, he4⟩, ⟨f5, hr5, he5⟩, ⟨f6, hr6, he6⟩, ⟨f7, hr7, he7⟩, ⟨R8, hr8, he8⟩, ⟨f9, hr9⟩, ⟨f10, hr10⟩, ⟨fG, hrG, heG⟩⟩ := id hL
  have hY := hI.1
  have hnv := hY.2.1
  have htc10 := hY.2.2.2.1
  intro post hp
  show Ev D 4 mX4_comfortOf 0 [some (.ref (a)), some (.int (nI (v))), none, none] [] h 0 0 post
  refine e_iconst (nI (0)) dX4_comfortOf_0 (by decide) ?_
  refine e_istore_n dX4_comfortOf_1 (by decide) ?_
  refine e_iconst (nI (0)) dX4_comfortOf_2 (by decide) ?_
  refine e_istore_n dX4_comfortOf_3 (by decide) ?_
  exact kl_comfortOf D hL hI v hv hp (tcN N) 0 _ (by omega) rfl
set_option maxRecDepth 20000 in
theorem kl_allComfort (D : En) {h : AH} {a : Nat} {N : Nat → Int32} (hL : LandAt h a N) (hI : IN N) {post : Option Value → AH → Prop} (hp : ∀ h', h' = h → post (some (.int (sumF (cfN N) (nvN N)))) h') : ∀ (j : Nat) (v : Nat) (ac : Int32), (v + j = nvN N) → (ac = sumF (cfN N) v) → Ev D 5 mX4_allComfort 4 [some (.ref (a)), some (.int (ac)), some (.int (nI (v)))] [] h 0 0 post := by
  obtain ⟨hLo, ⟨f1, hr1, he1⟩, ⟨f2, hr2, he2⟩, ⟨f3, hr3, he3⟩, ⟨T4, hr4, he4⟩, ⟨f5, hr5, he5⟩, ⟨f6, hr6, he6⟩, ⟨f7, hr7, he7⟩, ⟨R8, hr8, he8⟩, ⟨f9, hr9⟩, ⟨f10, hr10⟩, ⟨fG, hrG, heG⟩⟩ := id hL
  have hY := hI.1
  have hnv := hY.2.1
  have htc10 := hY.2.2.2.1
  intro j
  induction j with
  | zero =>
    intro v ac hm ha
    refine e_iload_n dX4_allComfort_4 rfl ?_
    refine e_aload_n dX4_allComfort_5 rfl ?_
    refine e_get dX4_allComfort_6 fl_X4_18_4 hLo rfl ?_
    refine e_top (nI (nvN N)) hY.1 ?_
    refine e_icmp_geN 26 dX4_allComfort_9 (by decide) (by omega) (by omega) (fun hcq9 => ?_) (fun hcq9 => absurd hcq9 (by omega))
    refine e_iload_n dX4_allComfort_26 rfl ?_
    rw [show v = nvN N by omega] at ha
    exact e_iret dX4_allComfort_27 rfl (by rw [ha]; exact hp _ rfl)
  | succ j ih =>
    intro v ac hm ha
    refine e_iload_n dX4_allComfort_4 rfl ?_
    refine e_aload_n dX4_allComfort_5 rfl ?_
    refine e_get dX4_allComfort_6 fl_X4_18_4 hLo rfl ?_
    refine e_top (nI (nvN N)) hY.1 ?_
    refine e_icmp_geN 26 dX4_allComfort_9 (by decide) (by omega) (by omega) (fun hcq9 => absurd hcq9 (by omega)) (fun hcq9 => ?_)
    refine e_iload_n dX4_allComfort_12 rfl ?_
    refine e_aload_n dX4_allComfort_13 rfl ?_
    refine e_iload_n dX4_allComfort_14 rfl ?_
    refine c_V1iR (N := mX4_comfortOf) dX4_allComfort_15 lv_X4_130 mo_X4_comfortOf hL.cn (Nat.le_of_ble_eq_true rfl) (Nat.le_of_ble_eq_true rfl) (by decide) (k_comfortOf D hL hI (v) (by omega)) ?_
    refine e_iadd dX4_allComfort_18 ?_
    refine e_istore_n dX4_allComfort_19 (by decide) ?_
    refine e_iincN (v + 1) dX4_allComfort_20 rfl (by decide) (nI_add _ _) ?_
    refine e_goto 4 dX4_allComfort_23 (by decide) ?_
    exact ih (v + 1) _ (by omega) (by rw [sumF, ← ha])
set_option maxRecDepth 20000 in
theorem k_allComfort (D : En) {h : AH} {a : Nat} {N : Nat → Int32} (hL : LandAt h a N) (hI : IN N) : Sp D 5 mX4_allComfort [.ref (a)] h 0 0 (some (.int (sumF (cfN N) (nvN N)))) (fun h' => h' = h) := by
  obtain ⟨hLo, ⟨f1, hr1, he1⟩, ⟨f2, hr2, he2⟩, ⟨f3, hr3, he3⟩, ⟨T4, hr4, he4⟩, ⟨f5, hr5, he5⟩, ⟨f6, hr6, he6⟩, ⟨f7, hr7, he7⟩, ⟨R8, hr8, he8⟩, ⟨f9, hr9⟩, ⟨f10, hr10⟩, ⟨fG, hrG, heG⟩⟩ := id hL
  have hY := hI.1
  have hnv := hY.2.1
  have htc10 := hY.2.2.2.1
  intro post hp
  show Ev D 5 mX4_allComfort 0 [some (.ref (a)), none, none] [] h 0 0 post
  refine e_iconst (nI (0)) dX4_allComfort_0 (by decide) ?_
  refine e_istore_n dX4_allComfort_1 (by decide) ?_
  refine e_iconst (nI (0)) dX4_allComfort_2 (by decide) ?_
  refine e_istore_n dX4_allComfort_3 (by decide) ?_
  exact kl_allComfort D hL hI hp (nvN N) 0 _ (by omega) rfl
