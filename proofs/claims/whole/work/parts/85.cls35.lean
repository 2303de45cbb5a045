theorem ci6 (k : Nat) (gs : List Value) : ∀ fs, (.inr (ciK k, gs) : AC) ≠ .inr (6, fs) := by
  intro fs e
  have e1 : ciK k = 6 := congrArg (fun q : AC => match q with | .inr z => z.1 | .inl _ => 0) e
  revert e1
  unfold ciK
  split <;> decide
theorem st_kd {N : Nat → Int32} {t k : Nat} {a c l r : Int32} (hk : k < 7) : kdN (standR N t (nI k) a c l r) t = k := by
  unfold kdN standR
  simp (disch := omega) only [pk_un, pk_us]
  exact tn_nI (by omega)
theorem st_tg {N : Nat → Int32} {t : Nat} {k a c l r : Int32} : tgF (standR N t k a c l r) t = [.int (nI t), .int a, .int c, .int l, .int r] := by
  unfold tgF standR
  simp (disch := omega) only [pk_un, pk_us]
theorem KT.stand {N : Nat → Int32} {t : Nat} (ht : t < 10) {k a c l r : Int32} : KT N (standR N t k a c l r) := ⟨fun j a b => standR_ag (by omega) (by omega), fun j a b => standR_ag (by omega) (by omega)⟩
theorem c_addT (D : En) {h : AH} {s : SS} (hI : IN (sN s)) (hC : ClsS h s) (k v : Nat) (hk : k < 7) (hv : v < 8) (c l r : Int32) (hc : rg c 999) (ht : tcN (sN s) < 10) : Sp D 5 mX4_addThing [.ref 13, .ref h.length] (h ++ [.inr (ciK k, [.int (nI (tcN (sN s))), .int (nI v), .int c, .int l, .int r])]) 0 0 (some (.int (nI (tcN (sN s))))) (fun h' => ClsS h' (wN s (standR (sN s) (tcN (sN s)) (nI k) (nI v) c l r)) ∧ FrC h h') := by
  have hC2 := hC.push (ci6 k [.int (nI (tcN (sN s))), .int (nI v), .int c, .int l, .int r])
  have hI2 : IN (standR (sN s) (tcN (sN s)) (nI k) (nI v) c l r) := IN_stand hI rfl ht hk hv hc
  have hTh : ThingAt (h ++ [.inr (ciK k, [.int (nI (tcN (sN s))), .int (nI v), .int c, .int l, .int r])]) h.length (tcN (sN s)) (standR (sN s) (tcN (sN s)) (nI k) (nI v) c l r) := by
    refine ⟨hC.len, ?_⟩
    rw [List.getElem?_concat_length, st_kd hk, st_tg]
  refine (k_addT D hC2.L hI ht AT_stand hTh hC2.T hI2).weak (fun h' q => ?_)
  obtain ⟨q1, q2, q3⟩ := q
  exact ⟨hC2.land hI q2.z q1 q3 (KT.stand ht), (FrC.rf.push hC.len).trans (q2.z.frc hC2.rb (by decide) (by decide))⟩
theorem nn_of {x : Int32} (h : ¬ x < 0) : x = nI (tn x) ∧ tn x < 2 ^ 31 := by
  refine ⟨?_, ?_⟩
  · unfold nI tn
    rw [Int32.ofNat_toNatClampNeg _ (Int32.not_lt.mp h)]
  · have h3 := x.toInt_lt
    unfold tn
    show x.toInt.toNat < _
    omega
theorem kv_iff {x : Int32} (h : x = nI (tn x)) (hx : tn x < 2 ^ 31) : (nI 0 ≤ x ∧ x ≤ nI 69) ↔ (nI 0 ≤ nI (tn x / 10) ∧ nI (tn x / 10) ≤ nI 6) := by
  have e1 : x ≤ nI 69 ↔ tn x ≤ 69 := by
    conv => lhs; rw [h]
    exact nI_leI hx (by decide)
  have e0 : nI 0 ≤ x ↔ 0 ≤ tn x := by
    conv => lhs; rw [h]
    exact nI_leI (by decide) hx
  rw [e1, e0, nI_leI (by decide) (by omega), nI_leI (by omega) (by decide)]
  omega
theorem isV_lt {s : SS} (hY : sN s 1 = nI (nvN (sN s))) (hnv : nvN (sN s) ≤ 8) {n : Nat} (hn : n < 2 ^ 31) (h : isV s (nI n)) : n < nvN (sN s) := by
  obtain ⟨-, l⟩ := isN h hY (by omega)
  rw [tn_nI hn] at l
  exact l
set_option maxRecDepth 20000 in
theorem cp_thing (D : En) {h : AH} {s : SS} (hI : INV s) (hC : ClsS h s) (kv : Int32) (c : Int32) (l : Int32) (r : Int32) : Sp D 6 mX11_thing [.ref (11), .int (kv), .int (c), .int (l), .int (r)] h 1 5 (some (.int (f_thing s kv c l r).1)) (fun h' => ClsS h' (f_thing s kv c l r).2 ∧ FrC h h') := by
  have hY := hI.1.1
  have hnv := hY.2.1
  have htc10 := hY.2.2.2.1
  obtain ⟨h00, hh00⟩ : ∃ z, z = h := ⟨_, rfl⟩
  have hF : FrC h00 h := by rw [hh00]; exact FrC.rf
  intro post hp
  rw [← hh00] at hp
  show Ev D 6 mX11_thing 0 [some (.ref (11)), some (.int (kv)), some (.int (c)), some (.int (l)), some (.int (r)), none] [] h 1 5 post
  refine e_iload_n dX11_thing_0 rfl ?_
  refine e_if_lt 28 dX11_thing_1 (by decide) (fun hcq1 => ?_) (fun hcq1 => ?_)
  · refine e_aload_n dX11_thing_28 rfl ?_
    refine e_iconst (nI (1)) dX11_thing_29 (by decide) ?_
    refine c_V1i (nc := 1) (ns := 5) (mc := 0) (ms := 0) (N := mX11_error) dX11_thing_30 lv_X11_54 mo_X11_error hC.cn (Nat.le_of_ble_eq_true rfl) (Nat.le_of_ble_eq_true rfl) (by decide) (c_error D hC 1 (by decide)) (fun h hP => ?_)
    obtain ⟨hC, hF1⟩ := hP
    have hF := hF.trans hF1
    have e9 : f_thing s kv c l r = er 1 (s) := by rw [f_thing, if_neg (fun q => Int32.not_lt.mpr q.1 hcq1)]
    rw [e9] at hp
    exact e_iret dX11_thing_33 rfl (hp _ ⟨hC, hF⟩)
  · obtain ⟨hn_kv, hx_kv⟩ := nn_of hcq1
    have hq := kv_iff hn_kv hx_kv
    refine e_iload_n dX11_thing_4 rfl ?_
    refine e_top (nI (tn kv)) (hn_kv) ?_
    refine e_bipush (nI (10)) dX11_thing_5 (by decide) ?_
    refine e_idivN dX11_thing_7 (by omega) (by omega) (by omega) ?_
    refine e_iconst (nI (0)) dX11_thing_8 (by decide) ?_
    refine e_bipush (nI (6)) dX11_thing_9 (by decide) ?_
    refine c_S3iR (N := mX11_within) dX11_thing_11 ls_X11_72 mo_X11_within  (Nat.le_of_ble_eq_true rfl) (Nat.le_of_ble_eq_true rfl) (by decide) (c_within D (nI ((tn kv) / 10)) (nI (0)) (nI (6))) ?_
    refine e_if_eqB 28 dX11_thing_14 (by decide) (fun hcq14 => ?_) (fun hcq14 => ?_)
    · refine e_aload_n dX11_thing_28 rfl ?_
      refine e_iconst (nI (1)) dX11_thing_29 (by decide) ?_
      refine c_V1i (nc := 1) (ns := 5) (mc := 0) (ms := 0) (N := mX11_error) dX11_thing_30 lv_X11_54 mo_X11_error hC.cn (Nat.le_of_ble_eq_true rfl) (Nat.le_of_ble_eq_true rfl) (by decide) (c_error D hC 1 (by decide)) (fun h hP => ?_)
      obtain ⟨hC, hF1⟩ := hP
      have hF := hF.trans hF1
      have e9 : f_thing s kv c l r = er 1 (s) := by rw [f_thing, if_neg (fun q => hcq14 (hq.mp q))]
      rw [e9] at hp
      exact e_iret dX11_thing_33 rfl (hp _ ⟨hC, hF⟩)
    · have h69 : tn kv ≤ 69 := by have q := (hq.mpr hcq14).2; rw [hn_kv] at q; exact (nI_leI hx_kv (by decide)).mp q
      refine e_aload_n dX11_thing_17 rfl ?_
      refine e_iload_n dX11_thing_18 rfl ?_
      refine e_top (nI (tn kv)) (hn_kv) ?_
      refine e_bipush (nI (10)) dX11_thing_19 (by decide) ?_
      refine e_iremN dX11_thing_21 (by omega) (by omega) (by omega) ?_
      refine c_V1iR (N := mX11_isVillage) dX11_thing_22 lv_X11_68 mo_X11_isVillage hC.cn (Nat.le_of_ble_eq_true rfl) (Nat.le_of_ble_eq_true rfl) (by decide) (c_isV D hC (nI ((tn kv) % 10))) ?_
      refine e_if_neB 34 dX11_thing_25 (by decide) (fun hcq25 => ?_) (fun hcq25 => ?_)
      · have hvv := isV_lt hY.1 hnv (show tn kv % 10 < 2 ^ 31 by omega) hcq25
        refine e_iload_n dX11_thing_34 rfl ?_
        refine e_iconst (nI (0)) dX11_thing_35 (by decide) ?_
        refine e_sipush (nI (999)) dX11_thing_36 (by decide) ?_
        refine c_S3iR (N := mX11_within) dX11_thing_39 ls_X11_72 mo_X11_within  (Nat.le_of_ble_eq_true rfl) (Nat.le_of_ble_eq_true rfl) (by decide) (c_within D ((c)) (nI (0)) (nI (999))) ?_
        refine e_if_eqB 68 dX11_thing_42 (by decide) (fun hcq42 => ?_) (fun hcq42 => ?_)
        · refine e_aload_n dX11_thing_68 rfl ?_
          refine e_iconst (nI (1)) dX11_thing_69 (by decide) ?_
          refine c_V1i (nc := 1) (ns := 5) (mc := 0) (ms := 0) (N := mX11_error) dX11_thing_70 lv_X11_54 mo_X11_error hC.cn (Nat.le_of_ble_eq_true rfl) (Nat.le_of_ble_eq_true rfl) (by decide) (c_error D hC 1 (by decide)) (fun h hP => ?_)
          obtain ⟨hC, hF1⟩ := hP
          have hF := hF.trans hF1
          have e9 : f_thing s kv c l r = er 1 (s) := by rw [f_thing, if_pos (hq.mpr hcq14), if_pos hcq25, if_neg hcq42]
          rw [e9] at hp
          exact e_iret dX11_thing_73 rfl (hp _ ⟨hC, hF⟩)
        · obtain ⟨hn_c, hg_c, hl_c⟩ := wiN hcq42 (by decide) (by decide)
          refine e_iload_n dX11_thing_45 rfl ?_
          refine e_iconst (nI (0)) dX11_thing_46 (by decide) ?_
          refine e_sipush (nI (9999)) dX11_thing_47 (by decide) ?_
          refine c_S3iR (N := mX11_within) dX11_thing_50 ls_X11_72 mo_X11_within  (Nat.le_of_ble_eq_true rfl) (Nat.le_of_ble_eq_true rfl) (by decide) (c_within D ((l)) (nI (0)) (nI (9999))) ?_
          refine e_if_eqB 68 dX11_thing_53 (by decide) (fun hcq53 => ?_) (fun hcq53 => ?_)
          · refine e_aload_n dX11_thing_68 rfl ?_
            refine e_iconst (nI (1)) dX11_thing_69 (by decide) ?_
            refine c_V1i (nc := 1) (ns := 5) (mc := 0) (ms := 0) (N := mX11_error) dX11_thing_70 lv_X11_54 mo_X11_error hC.cn (Nat.le_of_ble_eq_true rfl) (Nat.le_of_ble_eq_true rfl) (by decide) (c_error D hC 1 (by decide)) (fun h hP => ?_)
            obtain ⟨hC, hF1⟩ := hP
            have hF := hF.trans hF1
            have e9 : f_thing s kv c l r = er 1 (s) := by rw [f_thing, if_pos (hq.mpr hcq14), if_pos hcq25, if_pos hcq42, if_neg hcq53]
            rw [e9] at hp
            exact e_iret dX11_thing_73 rfl (hp _ ⟨hC, hF⟩)
          · obtain ⟨hn_l, hg_l, hl_l⟩ := wiN hcq53 (by decide) (by decide)
            refine e_iload dX11_thing_56 rfl ?_
            refine e_iconst (nI (0)) dX11_thing_58 (by decide) ?_
            refine e_sipush (nI (300)) dX11_thing_59 (by decide) ?_
            refine c_S3iR (N := mX11_within) dX11_thing_62 ls_X11_72 mo_X11_within  (Nat.le_of_ble_eq_true rfl) (Nat.le_of_ble_eq_true rfl) (by decide) (c_within D ((r)) (nI (0)) (nI (300))) ?_
            refine e_if_neB 74 dX11_thing_65 (by decide) (fun hcq65 => ?_) (fun hcq65 => ?_)
            · obtain ⟨hn_r, hg_r, hl_r⟩ := wiN hcq65 (by decide) (by decide)
              refine e_aload_n dX11_thing_74 rfl ?_
              refine e_get dX11_thing_75 fl_X11_10_11 hC.1 rfl ?_
              refine e_get dX11_thing_78 fl_X11_58_2 hC.2.1.1 rfl ?_
              refine e_get dX11_thing_81 fl_X11_120_4 hC.2.1.2.1.1 rfl ?_
              refine e_top (nI (tcN (sN s))) hY.2.2.1 ?_
              refine e_bipush (nI (10)) dX11_thing_84 (by decide) ?_
              refine e_icmp_ltN 95 dX11_thing_86 (by decide) (by omega) (by omega) (fun hcq86 => ?_) (fun hcq86 => ?_)
              · refine e_aload_n dX11_thing_95 rfl ?_
                refine e_get dX11_thing_96 fl_X11_10_11 hC.1 rfl ?_
                refine e_get dX11_thing_99 fl_X11_58_2 hC.2.1.1 rfl ?_
                refine e_get dX11_thing_102 fl_X11_120_4 hC.2.1.2.1.1 rfl ?_
                refine e_top (nI (tcN (sN s))) hY.2.2.1 ?_
                refine e_istore dX11_thing_105 (by decide) ?_
                refine e_aload_n dX11_thing_107 rfl ?_
                refine e_get dX11_thing_108 fl_X11_10_11 hC.1 rfl ?_
                refine e_get dX11_thing_111 fl_X11_58_2 hC.2.1.1 rfl ?_
                refine e_iload_n dX11_thing_114 rfl ?_
                refine e_top (nI (tn kv)) (hn_kv) ?_
                refine e_bipush (nI (10)) dX11_thing_115 (by decide) ?_
                refine e_idivN dX11_thing_117 (by omega) (by omega) (by omega) ?_
                refine e_iload dX11_thing_118 rfl ?_
                refine e_iload_n dX11_thing_120 rfl ?_
                refine e_top (nI (tn kv)) (hn_kv) ?_
                refine e_bipush (nI (10)) dX11_thing_121 (by decide) ?_
                refine e_iremN dX11_thing_123 (by omega) (by omega) (by omega) ?_
                refine e_iload_n dX11_thing_124 rfl ?_
                refine e_iload_n dX11_thing_125 rfl ?_
                refine e_iload dX11_thing_126 rfl ?_
                obtain ⟨h9, hh9⟩ : ∃ z, z = h := ⟨_, rfl⟩
                rw [← hh9] at hC
                rw [← hh9] at hF
                rw [← hh9]
                refine c_S6a (nc := 0) (ns := 0) (mc := 1) (ms := 5) (N := mX11_newThing) dX11_thing_128 ls_X11_123 mo_X11_newThing  (Nat.le_of_ble_eq_true rfl) (Nat.le_of_ble_eq_true rfl) (by decide) (c_newThing D ((tn kv) / 10) (tcN (sN s)) ((tn kv) % 10) (by omega) ((c)) ((l)) ((r))) (fun h hP => ?_)
                rw [hP]
                refine c_V1i (nc := 0) (ns := 0) (mc := 0) (ms := 0) (N := mX4_addThing) dX11_thing_131 lv_X11_127 mo_X4_addThing (hC.push (ci6 _ _)).L.1.cn (Nat.le_of_ble_eq_true rfl) (Nat.le_of_ble_eq_true rfl) (by decide) (c_addT D hI.1 hC ((tn kv) / 10) ((tn kv) % 10) (by omega) (by omega) ((c)) ((l)) ((r)) hcq42 (show tcN (sN s) < 10 by omega)) (fun h hP => ?_)
                obtain ⟨hC, hF1⟩ := hP
                have hF := hF.trans hF1
                have e9 : f_thing s kv c l r = (nI (tcN (sN s)), wN s (standR (sN s) (tcN (sN s)) (nI ((tn kv) / 10)) (nI ((tn kv) % 10)) ((c)) ((l)) ((r)))) := by rw [f_thing, if_pos (hq.mpr hcq14), if_pos hcq25, if_pos hcq42, if_pos hcq53, if_pos hcq65, if_neg (by omega)]
                rw [e9] at hp
                exact e_iret dX11_thing_134 rfl (hp _ ⟨hC, hF⟩)
              · refine e_aload_n dX11_thing_89 rfl ?_
                refine e_iconst (nI (4)) dX11_thing_90 (by decide) ?_
                refine c_V1i (nc := 1) (ns := 5) (mc := 0) (ms := 0) (N := mX11_error) dX11_thing_91 lv_X11_54 mo_X11_error hC.cn (Nat.le_of_ble_eq_true rfl) (Nat.le_of_ble_eq_true rfl) (by decide) (c_error D hC 4 (by decide)) (fun h hP => ?_)
                obtain ⟨hC, hF1⟩ := hP
                have hF := hF.trans hF1
                have e9 : f_thing s kv c l r = er 4 (s) := by rw [f_thing, if_pos (hq.mpr hcq14), if_pos hcq25, if_pos hcq42, if_pos hcq53, if_pos hcq65, if_pos (by omega)]
                rw [e9] at hp
                exact e_iret dX11_thing_94 rfl (hp _ ⟨hC, hF⟩)
            · refine e_aload_n dX11_thing_68 rfl ?_
              refine e_iconst (nI (1)) dX11_thing_69 (by decide) ?_
              refine c_V1i (nc := 1) (ns := 5) (mc := 0) (ms := 0) (N := mX11_error) dX11_thing_70 lv_X11_54 mo_X11_error hC.cn (Nat.le_of_ble_eq_true rfl) (Nat.le_of_ble_eq_true rfl) (by decide) (c_error D hC 1 (by decide)) (fun h hP => ?_)
              obtain ⟨hC, hF1⟩ := hP
              have hF := hF.trans hF1
              have e9 : f_thing s kv c l r = er 1 (s) := by rw [f_thing, if_pos (hq.mpr hcq14), if_pos hcq25, if_pos hcq42, if_pos hcq53, if_neg hcq65]
              rw [e9] at hp
              exact e_iret dX11_thing_73 rfl (hp _ ⟨hC, hF⟩)
      · refine e_aload_n dX11_thing_28 rfl ?_
        refine e_iconst (nI (1)) dX11_thing_29 (by decide) ?_
        refine c_V1i (nc := 1) (ns := 5) (mc := 0) (ms := 0) (N := mX11_error) dX11_thing_30 lv_X11_54 mo_X11_error hC.cn (Nat.le_of_ble_eq_true rfl) (Nat.le_of_ble_eq_true rfl) (by decide) (c_error D hC 1 (by decide)) (fun h hP => ?_)
        obtain ⟨hC, hF1⟩ := hP
        have hF := hF.trans hF1
        have e9 : f_thing s kv c l r = er 1 (s) := by rw [f_thing, if_pos (hq.mpr hcq14), if_neg hcq25]
        rw [e9] at hp
        exact e_iret dX11_thing_33 rfl (hp _ ⟨hC, hF⟩)
