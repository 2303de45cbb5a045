theorem sh_e {N : Nat → Int32} {a b j : Nat} (hj : j < 112 ∨ ¬ (j - 112) % 7 = 5) : shut2 N a b j = N j := shut2_n (by omega)
theorem sh_ag {N : Nat → Int32} {a b : Nat} (ha : a < 10) (hb : b < 10) : OPN N (shut2 N a b) := (OPN.rf.up ha).up hb
theorem sh_st {N : Nat → Int32} (hI : IN N) {a b t : Nat} (ha : a < 10) (hb : b < 10) (ht : t < tcN N) : stN (shut2 N a b) (nvN (shut2 N a b)) t = stN (shut2 N a b) (nvN N) t := by rw [(sh_ag ha hb).e3.1]
theorem st_lt {N : Nat → Int32} {nv t : Nat} (h : nv ≤ 8) : stN N nv t < 8 := by
  unfold stN
  rcases Nat.eq_zero_or_pos nv with z | z
  · rw [z]; show 0 < 8; decide
  · exact Nat.lt_of_lt_of_le (siteW_lt _ _ z) h
theorem rg_min {x y : Int32} (hx : rg x 999) (hy : rg y 999) : rg (minI (nI 999) (x + y)) 999 := by
  obtain ⟨p1, -, p2⟩ := wiN hx (by decide) (by decide)
  obtain ⟨q1, -, q2⟩ := wiN hy (by decide) (by decide)
  rw [p1, q1, nI_add]
  unfold minI
  split
  · rename_i z
    exact rg_nI (by have := (nI_ltI (by omega) (by decide)).mp z; omega) (by decide)
  · exact rg_nI (by decide) (by decide)
set_option maxRecDepth 20000 in
theorem cp_join (D : En) {h : AH} {s : SS} (hI : INV s) (hC : ClsS h s) (a : Int32) (b : Int32) : Sp D 6 mX11_join [.ref (11), .int (a), .int (b)] h 1 5 (some (.int (f_join s a b).1)) (fun h' => ClsS h' (f_join s a b).2 ∧ FrC h h') := by
  have hY := hI.1.1
  have hnv := hY.2.1
  have htc10 := hY.2.2.2.1
  obtain ⟨h00, hh00⟩ : ∃ z, z = h := ⟨_, rfl⟩
  have hF : FrC h00 h := by rw [hh00]; exact FrC.rf
  intro post hp
  rw [← hh00] at hp
  show Ev D 6 mX11_join 0 [some (.ref (11)), some (.int (a)), some (.int (b)), none, none, none, none, none] [] h 1 5 post
  by_cases h2 : isT s a ∧ isT s b ∧ ¬ tn a = tn b
  · obtain ⟨hn_a, hl_a⟩ := isN h2.1 hY.2.2.1 (by omega)
    obtain ⟨hn_b, hl_b⟩ := isN h2.2.1 hY.2.2.1 (by omega)
    have hka := (hY.2.2.2.2.1 _ hl_a).2.1
    have hkb := (hY.2.2.2.2.1 _ hl_b).2.1
    by_cases hk : kdN (sN s) (tn a) = kdN (sN s) (tn b)
    · refine e_aload_n dX11_join_0 rfl ?_
      refine e_iload_n dX11_join_1 rfl ?_
      refine e_iload_n dX11_join_2 rfl ?_
      refine c_V2iR (N := mX11_errorOfTwo) dX11_join_3 lv_X11_273 mo_X11_errorOfTwo hC.cn (Nat.le_of_ble_eq_true rfl) (Nat.le_of_ble_eq_true rfl) (by decide) (c_two0 D hI hC a b h2 hk) ?_
      refine e_istore_n dX11_join_6 (by decide) ?_
      refine e_iload_n dX11_join_7 rfl ?_
      refine e_if_eqN 17 dX11_join_8 (by decide) (by omega) (fun hcq8 => ?_) (fun hcq8 => absurd hcq8 (by decide))
      refine e_aload_n dX11_join_17 rfl ?_
      refine e_get dX11_join_18 fl_X11_10_11 hC.1 rfl ?_
      refine e_get dX11_join_21 fl_X11_58_2 hC.2.1.1 rfl ?_
      refine e_astore dX11_join_24 (by decide) ?_
      refine e_aload dX11_join_26 rfl ?_
      refine e_get dX11_join_28 fl_X11_120_4 hC.2.1.2.1.1 rfl ?_
      refine e_top (nI (tcN (sN s))) hY.2.2.1 ?_
      refine e_bipush (nI (10)) dX11_join_31 (by decide) ?_
      refine e_icmp_ltN 42 dX11_join_33 (by decide) (by omega) (by omega) (fun hcq33 => ?_) (fun hcq33 => ?_)
      · have hrg9 : rg (minI (nI 999) (sN s (112 + 7 * tn a + 2) + sN s (112 + 7 * tn b + 2))) 999 := rg_min (hI.1.2.2.2.1.2.2.1 _ (by omega)).2 (hI.1.2.2.2.1.2.2.1 _ (by omega)).2
        obtain ⟨hLo, ⟨f1, hr1, he1⟩, ⟨f2, hr2, he2⟩, ⟨f3, hr3, he3⟩, ⟨T4, hr4, he4⟩, ⟨f5, hr5, he5⟩, ⟨f6, hr6, he6⟩, ⟨f7, hr7, he7⟩, ⟨R8, hr8, he8⟩, ⟨f9, hr9⟩, ⟨f10, hr10⟩, ⟨fG, hrG, heG⟩⟩ := id hC.L.1
        refine e_aload dX11_join_42 rfl ?_
        refine e_get dX11_join_44 fl_X11_134_4 hC.2.1.2.1.1 rfl ?_
        refine e_iload_n dX11_join_47 rfl ?_
        refine e_top (nI (tn a)) (hn_a) ?_
        obtain ⟨b48, hTb48, hb48⟩ := he4 (tn a) (by omega)
        refine e_ald (v := some b48) (tn a) dX11_join_48 hr4 (Or.inl rfl) rfl (by omega) (by decide) hTb48 ?_
        refine e_astore dX11_join_49 (by decide) ?_
        refine e_sipush (nI (999)) dX11_join_51 (by decide) ?_
        refine e_aload dX11_join_54 rfl ?_
        refine tf_get2 dX11_join_56 tl_X11_146 hb48 ?_
        refine e_aload dX11_join_59 rfl ?_
        refine e_get dX11_join_61 fl_X11_134_4 hC.2.1.2.1.1 rfl ?_
        refine e_iload_n dX11_join_64 rfl ?_
        refine e_top (nI (tn b)) (hn_b) ?_
        obtain ⟨b65, hTb65, hb65⟩ := he4 (tn b) (by omega)
        refine e_ald (v := some b65) (tn b) dX11_join_65 hr4 (Or.inl rfl) rfl (by omega) (by decide) hTb65 ?_
        refine tf_get2 dX11_join_66 tl_X11_146 hb65 ?_
        refine e_iadd dX11_join_69 ?_
        refine e_mmin dX11_join_70 mw_X11_279 (by decide) (Nat.le_of_ble_eq_true rfl) ?_
        refine e_top ((minI (nI 999) (sN s (112 + 7 * tn a + 2) + sN s (112 + 7 * tn b + 2)))) (rfl) ?_
        refine e_istore dX11_join_73 (by decide) ?_
        refine e_aload dX11_join_75 rfl ?_
        refine vc_X11_138 rfl dX11_join_77 hb48 (hY.2.2.2.2.1 _ (by omega)).2.1 (Nat.le_of_ble_eq_true rfl) (by decide) ?_
        refine e_istore dX11_join_80 (by decide) ?_
        refine e_aload dX11_join_82 rfl ?_
        refine e_iload_n dX11_join_84 rfl ?_
        refine e_top (nI (tn a)) (hn_a) ?_
        refine e_iconst (nI (0)) dX11_join_85 (by decide) ?_
        refine c_V2v (nc := 1) (ns := 5) (mc := 0) (ms := 0) (N := mX4_setOpen) dX11_join_86 lv_X11_174 mo_X4_setOpen hC.L.1.cn (Nat.le_of_ble_eq_true rfl) (Nat.le_of_ble_eq_true rfl) (by decide) (k_setOpen0 D hC.L.1 hI.1 (by decide) (tn a) (by omega)) (fun h hP => ?_)
        obtain ⟨y9, hh9, hy9⟩ := hP
        have hF : FrC h00 h := by rw [hh9]; exact hF.set (show 11 ≤ 13 by decide) (show 13 < 82 by decide)
        have hb48 : ThingAt h b48 (tn a) (sN s) := by rw [hh9]; exact ⟨hb48.1, getset (b := 13) hb48.2 (by have := hb48.1; omega)⟩
        have hC : ClsS h (wN s (upd (sN s) (112 + 7 * (tn a) + 5) (nI 0))) := by rw [hh9]; exact hC.lset hI.1 (show 13 ≤ 13 ∧ 13 ≤ 24 ∧ 13 ≠ 17 by decide) (hC.L.set (by decide) (fun fs e => by cases e) (hC.L.1.op hI.1 (by decide) (t := tn a) (by omega) (nI 0) y9 hy9)) (tc_up (by omega)) (KT.up (by omega))
        have hI1 : IN (upd (sN s) (112 + 7 * (tn a) + 5) (nI 0)) := IN_op hI.1 (by omega) (rg_nI (by decide) (by decide))
        refine e_aload dX11_join_89 rfl ?_
        refine e_iload_n dX11_join_91 rfl ?_
        refine e_top (nI (tn b)) (hn_b) ?_
        refine e_iconst (nI (0)) dX11_join_92 (by decide) ?_
        refine c_V2v (nc := 1) (ns := 5) (mc := 0) (ms := 0) (N := mX4_setOpen) dX11_join_93 lv_X11_174 mo_X4_setOpen hC.L.1.cn (Nat.le_of_ble_eq_true rfl) (Nat.le_of_ble_eq_true rfl) (by decide) (k_setOpen0 D hC.L.1 hI1 (by decide) (tn b) (by show _ < tcN (upd (sN s) _ _); rw [tc_up (by omega)]; omega)) (fun h hP => ?_)
        obtain ⟨y9, hh9, hy9⟩ := hP
        have hF : FrC h00 h := by rw [hh9]; exact hF.set (show 11 ≤ 13 by decide) (show 13 < 82 by decide)
        have hb48 : ThingAt h b48 (tn a) (sN s) := by rw [hh9]; exact ⟨hb48.1, getset (b := 13) hb48.2 (by have := hb48.1; omega)⟩
        have hC : ClsS h (wN s (upd (upd (sN s) (112 + 7 * (tn a) + 5) (nI 0)) (112 + 7 * (tn b) + 5) (nI 0))) := by rw [hh9]; exact hC.lset hI1 (show 13 ≤ 13 ∧ 13 ≤ 24 ∧ 13 ≠ 17 by decide) (hC.L.set (by decide) (fun fs e => by cases e) (hC.L.1.op hI1 (by decide) (t := tn b) (by omega) (nI 0) y9 hy9)) (tc_up (by omega)) (KT.up (by omega))
        have hI2 : IN (shut2 (sN s) (tn a) (tn b)) := IN_shut2 hI.1 (by omega) (by omega)
        have hC : ClsS _ (wN s (shut2 (sN s) (tn a) (tn b))) := hC
        have hO2 := sh_ag (N := sN s) (a := tn a) (b := tn b) (by omega) (by omega)
        have htc2 := hO2.e3.2.1
        have hnv2 := hO2.e3.1
        have hst9 : stN (shut2 (sN s) (tn a) (tn b)) (nvN (shut2 (sN s) (tn a) (tn b))) (tn a) < 8 := st_lt (by rw [hnv2]; exact hnv)
        refine e_aload dX11_join_96 rfl ?_
        refine e_iload dX11_join_98 rfl ?_
        refine e_aload dX11_join_100 rfl ?_
        refine e_get dX11_join_102 fl_X11_120_4 hC.2.1.2.1.1 rfl ?_
        refine e_top (nI (tcN (shut2 (sN s) (tn a) (tn b)))) hI2.1.2.2.1 ?_
        refine e_aload_n dX11_join_105 rfl ?_
        refine e_iload_n dX11_join_106 rfl ?_
        refine e_top (nI (tn a)) (hn_a) ?_
        refine c_V1iR (N := mX11_bestSite) dX11_join_107 lv_X11_276 mo_X11_bestSite hC.cn (Nat.le_of_ble_eq_true rfl) (Nat.le_of_ble_eq_true rfl) (by decide) (c_site (s := wN s (shut2 (sN s) (tn a) (tn b))) D hI2 hC (tn a) (by rw [show tcN (sN (wN s (shut2 (sN s) (tn a) (tn b)))) = _ from htc2]; omega)) ?_
        refine e_iload dX11_join_110 rfl ?_
        refine e_aload dX11_join_112 rfl ?_
        refine tf_get3 dX11_join_114 tl_X11_149 hb48 ?_
        refine e_aload dX11_join_117 rfl ?_
        refine tf_get4 dX11_join_119 tl_X11_152 hb48 ?_
        obtain ⟨h9, hh9⟩ : ∃ z, z = h := ⟨_, rfl⟩
        rw [← hh9] at hC
        rw [← hh9] at hF
        rw [← hh9]
        refine c_S6a (nc := 0) (ns := 0) (mc := 1) (ms := 5) (N := mX11_newThing) dX11_join_122 ls_X11_123 mo_X11_newThing  (Nat.le_of_ble_eq_true rfl) (Nat.le_of_ble_eq_true rfl) (by decide) (c_newThing D (kdN (sN s) (tn a)) (tcN (shut2 (sN s) (tn a) (tn b))) (stN (shut2 (sN s) (tn a) (tn b)) (nvN (shut2 (sN s) (tn a) (tn b))) (tn a)) (by omega) ((minI (nI 999) (sN s (112 + 7 * tn a + 2) + sN s (112 + 7 * tn b + 2)))) (((sN s) (112 + 7 * (tn a) + 3))) (((sN s) (112 + 7 * (tn a) + 4)))) (fun h hP => ?_)
        rw [hP]
        refine c_V1i (nc := 0) (ns := 0) (mc := 0) (ms := 0) (N := mX4_addThing) dX11_join_125 lv_X11_127 mo_X4_addThing (hC.push (ci6 _ _)).L.1.cn (Nat.le_of_ble_eq_true rfl) (Nat.le_of_ble_eq_true rfl) (by decide) (c_addT D hI2 hC (kdN (sN s) (tn a)) (stN (shut2 (sN s) (tn a) (tn b)) (nvN (shut2 (sN s) (tn a) (tn b))) (tn a)) (by omega) (by omega) ((minI (nI 999) (sN s (112 + 7 * tn a + 2) + sN s (112 + 7 * tn b + 2)))) (((sN s) (112 + 7 * (tn a) + 3))) (((sN s) (112 + 7 * (tn a) + 4))) hrg9 (show tcN (shut2 (sN s) (tn a) (tn b)) < 10 by omega)) (fun h hP => ?_)
        obtain ⟨hC, hF1⟩ := hP
        have hF := hF.trans hF1
        have e9 : f_join s a b = (nI (tcN (shut2 (sN s) (tn a) (tn b))), wN s (standR (shut2 (sN s) (tn a) (tn b)) (tcN (shut2 (sN s) (tn a) (tn b))) (nI (kdN (sN s) (tn a))) (nI (stN (shut2 (sN s) (tn a) (tn b)) (nvN (shut2 (sN s) (tn a) (tn b))) (tn a))) ((minI (nI 999) (sN s (112 + 7 * tn a + 2) + sN s (112 + 7 * tn b + 2)))) (((sN s) (112 + 7 * (tn a) + 3))) (((sN s) (112 + 7 * (tn a) + 4))))) := by rw [f_join, if_pos h2, if_pos hk, if_neg (by omega), ← htc2]; unfold joinN joinM; rw [← htc2, ← hnv2, sh_e (j := 112 + 7 * tn a + 2) (by omega), sh_e (j := 112 + 7 * tn b + 2) (by omega), sh_e (j := 112 + 7 * tn a + 3) (by omega), sh_e (j := 112 + 7 * tn a + 4) (by omega), show kdN (shut2 (sN s) (tn a) (tn b)) (tn a) = kdN (sN s) (tn a) from hO2.ag.kd (by omega)]
        rw [e9] at hp
        exact e_iret dX11_join_128 rfl (hp _ ⟨hC, hF⟩)
      · refine e_aload_n dX11_join_36 rfl ?_
        refine e_iconst (nI (4)) dX11_join_37 (by decide) ?_
        refine c_V1i (nc := 1) (ns := 5) (mc := 0) (ms := 0) (N := mX11_error) dX11_join_38 lv_X11_54 mo_X11_error hC.cn (Nat.le_of_ble_eq_true rfl) (Nat.le_of_ble_eq_true rfl) (by decide) (c_error D hC 4 (by decide)) (fun h hP => ?_)
        obtain ⟨hC, hF1⟩ := hP
        have hF := hF.trans hF1
        have e9 : f_join s a b = er 4 (s) := by rw [f_join, if_pos h2, if_pos hk, if_pos (by omega)]
        rw [e9] at hp
        exact e_iret dX11_join_41 rfl (hp _ ⟨hC, hF⟩)
    · refine e_aload_n dX11_join_0 rfl ?_
      refine e_iload_n dX11_join_1 rfl ?_
      refine e_iload_n dX11_join_2 rfl ?_
      refine c_V2iR (N := mX11_errorOfTwo) dX11_join_3 lv_X11_273 mo_X11_errorOfTwo hC.cn (Nat.le_of_ble_eq_true rfl) (Nat.le_of_ble_eq_true rfl) (by decide) (c_two5 D hI hC a b h2 hk) ?_
      refine e_istore_n dX11_join_6 (by decide) ?_
      refine e_iload_n dX11_join_7 rfl ?_
      refine e_if_eqN 17 dX11_join_8 (by decide) (by omega) (fun hcq8 => absurd hcq8 (by decide)) (fun hcq8 => ?_)
      refine e_aload_n dX11_join_11 rfl ?_
      refine e_iload_n dX11_join_12 rfl ?_
      refine c_V1i (nc := 1) (ns := 5) (mc := 0) (ms := 0) (N := mX11_error) dX11_join_13 lv_X11_54 mo_X11_error hC.cn (Nat.le_of_ble_eq_true rfl) (Nat.le_of_ble_eq_true rfl) (by decide) (c_error D hC 5 (by decide)) (fun h hP => ?_)
      obtain ⟨hC, hF1⟩ := hP
      have hF := hF.trans hF1
      have e9 : f_join s a b = er 5 (s) := by rw [f_join, if_pos h2, if_neg hk]
      rw [e9] at hp
      exact e_iret dX11_join_16 rfl (hp _ ⟨hC, hF⟩)
  · refine e_aload_n dX11_join_0 rfl ?_
    refine e_iload_n dX11_join_1 rfl ?_
    refine e_iload_n dX11_join_2 rfl ?_
    refine c_V2iR (N := mX11_errorOfTwo) dX11_join_3 lv_X11_273 mo_X11_errorOfTwo hC.cn (Nat.le_of_ble_eq_true rfl) (Nat.le_of_ble_eq_true rfl) (by decide) (c_two1 D hI hC a b h2) ?_
    refine e_istore_n dX11_join_6 (by decide) ?_
    refine e_iload_n dX11_join_7 rfl ?_
    refine e_if_eqN 17 dX11_join_8 (by decide) (by omega) (fun hcq8 => absurd hcq8 (by decide)) (fun hcq8 => ?_)
    refine e_aload_n dX11_join_11 rfl ?_
    refine e_iload_n dX11_join_12 rfl ?_
    refine c_V1i (nc := 1) (ns := 5) (mc := 0) (ms := 0) (N := mX11_error) dX11_join_13 lv_X11_54 mo_X11_error hC.cn (Nat.le_of_ble_eq_true rfl) (Nat.le_of_ble_eq_true rfl) (by decide) (c_error D hC 1 (by decide)) (fun h hP => ?_)
    obtain ⟨hC, hF1⟩ := hP
    have hF := hF.trans hF1
    have e9 : f_join s a b = er 1 (s) := by rw [f_join, if_neg h2]
    rw [e9] at hp
    exact e_iret dX11_join_16 rfl (hp _ ⟨hC, hF⟩)
