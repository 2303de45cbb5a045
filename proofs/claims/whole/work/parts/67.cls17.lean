theorem md_ne {N : Nat → Int32} {u w v : Nat} {x : Int32} (hw : w < 8) (hv : v ≠ u) : mdB (upd N (48 + 8 * u + w) x) v = mdB N v := by
  apply bt_ext
  intro i hi
  rw [bt_md v i hi, bt_md v i hi]
  by_cases e : i < 8
  · rw [pk_un (by omega)]
  · rw [decide_eq_false (fun z => e z.1), decide_eq_false (fun z => e z.1)]
theorem md_1 {N : Nat → Int32} {u w : Nat} (hw : w < 8) : mdB (upd N (48 + 8 * u + w) (nI 1)) u = mdB N u ||| nI 1 <<< (nI w &&& 31) := by
  apply bt_ext
  intro i hi
  rw [bt_or, bt_md u i hi, bt_md u i hi, bt_sh1 w (by omega) i hi]
  by_cases e : i = w
  · subst e
    rw [pk_us, decide_eq_true ⟨hw, rfl⟩, decide_eq_true rfl, Bool.or_true]
  · rw [decide_eq_false e, Bool.or_false, pk_un (by omega)]
theorem md_0 {N : Nat → Int32} {u w : Nat} (hw : w < 8) : mdB (upd N (48 + 8 * u + w) (nI 0)) u = mdB N u &&& (nI 1 <<< (nI w &&& 31) ^^^ (-1)) := by
  apply bt_ext
  intro i hi
  rw [bt_and, bt_xor, bt_m1 i hi, bt_md u i hi, bt_md u i hi, bt_sh1 w (by omega) i hi]
  by_cases e : i = w
  · subst e
    rw [pk_us, decide_eq_false (fun z => absurd z.2 (by decide)), decide_eq_true rfl]
    simp
  · rw [decide_eq_false e, pk_un (by omega)]
    simp
theorem LandAt.md {h h' : AH} {a : Nat} {N N' : Nat → Int32} (hL : LandAt h a N) (hK : ∀ j, j < 48 ∨ 112 ≤ j → N' j = N j) (ha : a + 11 < 101) (k3 : ∃ f, Row0 h' (a + 3) 8 f ∧ ∀ v, v < 8 → f v = mdB N' v) (hU : ∀ x, x ≠ a + 3 → h'[x]? = h[x]?) : LandU h' a N' := by
  obtain ⟨hLo, ⟨f1, hr1, he1⟩, ⟨f2, hr2, he2⟩, -, ⟨T4, hr4, he4⟩, ⟨f5, hr5, he5⟩, ⟨f6, hr6, -⟩, ⟨f7, hr7, he7⟩, ⟨R8, hr8, he8⟩, ⟨f9, hr9⟩, ⟨f10, hr10⟩, ⟨fG, hrG, heG⟩⟩ := hL
  have hH : ∀ x, 101 ≤ x → h'[x]? = h[x]? := fun x hx => hU x (by omega)
  have etc : tcN N' = tcN N := by unfold tcN; rw [hK 2 (by omega)]
  have etx : txN N' = txN N := txN_ag (fun j hj => hK j (by omega))
  have eop : opB N' = opB N := by
    unfold opB
    rw [etc]
    have e : openR N' = openR N := by
      funext t
      unfold openR
      rw [hK _ (by omega)]
    rw [e]
  have eln : lnF a N' = lnF a N := by
    unfold lnF
    rw [hK 0 (by omega), hK 6 (by omega), hK 1 (by omega), hK 2 (by omega), eop]
  refine ⟨by rw [eln]; exact (hU _ (by omega)).trans hLo, ⟨f1, (hU _ (by omega)).trans hr1, fun v hv => (he1 v hv).trans (hK _ (by omega)).symm⟩, ⟨f2, (hU _ (by omega)).trans hr2, fun v hv w hw => (he2 v hv w hw).trans (hK _ (by omega)).symm⟩, k3, ⟨T4, (hU _ (by omega)).trans hr4, fun t ht => ?_⟩, ⟨f5, (hU _ (by omega)).trans hr5, fun t ht => ?_⟩, ⟨f6, (hU _ (by omega)).trans hr6⟩, ⟨f7, (hU _ (by omega)).trans hr7, fun k hk => (he7 k hk).trans (hK _ (by omega)).symm⟩, ⟨R8, (hU _ (by omega)).trans hr8, fun u hu => ?_⟩, ⟨f9, (hU _ (by omega)).trans hr9⟩, ⟨f10, (hU _ (by omega)).trans hr10⟩, ⟨fG, (hU _ (by omega)).trans hrG, fun t ht => ?_⟩⟩
  · rw [etc] at ht
    obtain ⟨y, hy, hb⟩ := he4 t ht
    refine ⟨y, hy, ?_⟩
    have hb2 := hb.hi hH
    unfold ThingAt at hb2 ⊢
    have e1 : kdN N' t = kdN N t := by unfold kdN; rw [hK _ (by omega)]
    have e2 : tgF N' t = tgF N t := by unfold tgF; rw [hK _ (by omega), hK _ (by omega), hK _ (by omega), hK _ (by omega)]
    rw [e1, e2]
    exact hb2
  · rw [etc] at ht
    exact (he5 t ht).trans (hK _ (by omega)).symm
  · rw [etx]
    rcases he8 u hu with z | ⟨z, r, w, hr⟩
    · exact Or.inl z
    · exact Or.inr ⟨z, r, w, hr.hi hH⟩
  · rw [etc] at ht
    rw [show kdN N' t = kdN N t by unfold kdN; rw [hK _ (by omega)]]
    exact heG t ht
set_option maxRecDepth 20000 in
theorem k_mend1 (D : En) {h : AH} {a : Nat} {N : Nat → Int32} (hL : LB h a N) (u w : Nat) (hu : u < 8) (hw : w < 8) (huw : ¬ u = w) (hI2 : IN (upd (upd N (48 + 8 * w + u) (nI 1)) (48 + 8 * u + w) (nI 1))) : Sp D 5 mX4_setMended [.ref a, .int (nI u), .int (nI w), .int (nI 1)] h 0 0 none (fun h' => LB h' a (upd (upd N (48 + 8 * w + u) (nI 1)) (48 + 8 * u + w) (nI 1)) ∧ FA a h h' ∧ h'[a + 4]? = h[a + 4]?) := by
  have ha := hL.2.2
  obtain ⟨hLo, -, -, ⟨f3, hr3, he3⟩, -⟩ := id hL.1
  intro post hp
  show Ev D 5 mX4_setMended 0 [some (.ref a), some (.int (nI u)), some (.int (nI w)), some (.int (nI 1))] [] h 0 0 post
  refine e_aload_n dX4_setMended_0 rfl ?_
  refine e_get dX4_setMended_1 fl_X4_34_4 hLo rfl ?_
  refine e_iload_n dX4_setMended_4 rfl ?_
  refine e_iload_n dX4_setMended_5 rfl ?_
  refine e_if_eqN 22 dX4_setMended_6 (by decide) (by omega) (fun z => absurd z (by decide)) (fun z => ?_)
  refine e_aload_n dX4_setMended_9 rfl ?_
  refine e_get dX4_setMended_10 fl_X4_34_4 hLo rfl ?_
  refine e_iload_n dX4_setMended_13 rfl ?_
  refine e_ild u (mdB N u) dX4_setMended_14 hr3 rfl (by omega) (by decide) (he3 u hu) ?_
  refine e_iconst (nI 1) dX4_setMended_15 (by decide) ?_
  refine e_iload_n dX4_setMended_16 rfl ?_
  refine e_ishl dX4_setMended_17 ?_
  refine e_ior dX4_setMended_18 ?_
  refine e_goto 34 dX4_setMended_19 (by decide) ?_
  refine e_ist u dX4_setMended_34 hr3 rfl (by omega) (by decide) ?_
  have r3 := getself (c := .inl (0, 8, .inl (upd f3 u (mdB N u ||| nI 1 <<< (nI w &&& 31))))) hr3
  have hL1 := getset (b := a + 3) (c := .inl (0, 8, .inl (upd f3 u (mdB N u ||| nI 1 <<< (nI w &&& 31))))) hLo (by omega)
  refine e_aload_n dX4_setMended_35 rfl ?_
  refine e_get dX4_setMended_36 fl_X4_34_4 hL1 rfl ?_
  refine e_iload_n dX4_setMended_39 rfl ?_
  refine e_iload_n dX4_setMended_40 rfl ?_
  refine e_if_eqN 57 dX4_setMended_41 (by decide) (by omega) (fun z => absurd z (by decide)) (fun z => ?_)
  refine e_aload_n dX4_setMended_44 rfl ?_
  refine e_get dX4_setMended_45 fl_X4_34_4 hL1 rfl ?_
  refine e_iload_n dX4_setMended_48 rfl ?_
  refine e_ild w (mdB N w) dX4_setMended_49 r3 rfl (by omega) (by decide) (by rw [pk_un (fun z => huw z.symm)]; exact he3 w hw) ?_
  refine e_iconst (nI 1) dX4_setMended_50 (by decide) ?_
  refine e_iload_n dX4_setMended_51 rfl ?_
  refine e_ishl dX4_setMended_52 ?_
  refine e_ior dX4_setMended_53 ?_
  refine e_goto 69 dX4_setMended_54 (by decide) ?_
  refine e_ist w dX4_setMended_69 r3 rfl (by omega) (by decide) ?_
  have r4 := getself (c := .inl (0, 8, .inl (upd (upd f3 u (mdB N u ||| nI 1 <<< (nI w &&& 31))) w (mdB N w ||| nI 1 <<< (nI u &&& 31))))) r3
  have hU : ∀ x, x ≠ a + 3 → ((h.set (a + 3) (.inl (0, 8, .inl (upd f3 u (mdB N u ||| nI 1 <<< (nI w &&& 31)))))).set (a + 3) (.inl (0, 8, .inl (upd (upd f3 u (mdB N u ||| nI 1 <<< (nI w &&& 31))) w (mdB N w ||| nI 1 <<< (nI u &&& 31))))))[x]? = h[x]? := fun x hx => getset (getset rfl (Ne.symm hx)) (Ne.symm hx)
  have hl : ((h.set (a + 3) (.inl (0, 8, .inl (upd f3 u (mdB N u ||| nI 1 <<< (nI w &&& 31)))))).set (a + 3) (.inl (0, 8, .inl (upd (upd f3 u (mdB N u ||| nI 1 <<< (nI w &&& 31))) w (mdB N w ||| nI 1 <<< (nI u &&& 31)))))).length = h.length := by rw [List.length_set, List.length_set]
  have hB : RB ((h.set (a + 3) (.inl (0, 8, .inl (upd f3 u (mdB N u ||| nI 1 <<< (nI w &&& 31)))))).set (a + 3) (.inl (0, 8, .inl (upd (upd f3 u (mdB N u ||| nI 1 <<< (nI w &&& 31))) w (mdB N w ||| nI 1 <<< (nI u &&& 31)))))) := (hL.2.1.set (by omega) (fun fs e => by cases e)).set (by omega) (fun fs e => by cases e)
  change Ev D 5 mX4_setMended 70 [some (.ref a), some (.int (nI u)), some (.int (nI w)), some (.int (nI 1))] [] ((h.set (a + 3) (.inl (0, 8, .inl (upd f3 u (mdB N u ||| nI 1 <<< (nI w &&& 31)))))).set (a + 3) (.inl (0, 8, .inl (upd (upd f3 u (mdB N u ||| nI 1 <<< (nI w &&& 31))) w (mdB N w ||| nI 1 <<< (nI u &&& 31)))))) 0 0 post
  obtain ⟨h5, hh5⟩ : ∃ z, z = (h.set (a + 3) (.inl (0, 8, .inl (upd f3 u (mdB N u ||| nI 1 <<< (nI w &&& 31)))))).set (a + 3) (.inl (0, 8, .inl (upd (upd f3 u (mdB N u ||| nI 1 <<< (nI w &&& 31))) w (mdB N w ||| nI 1 <<< (nI u &&& 31))))) := ⟨_, rfl⟩
  rw [← hh5] at r4
  rw [← hh5] at hU
  rw [← hh5] at hl
  rw [← hh5] at hB
  rw [← hh5]
  clear hh5
  have hR : ∀ v, v < 8 → upd (upd f3 u (mdB N u ||| nI 1 <<< (nI w &&& 31))) w (mdB N w ||| nI 1 <<< (nI u &&& 31)) v = mdB (upd (upd N (48 + 8 * w + u) (nI 1)) (48 + 8 * u + w) (nI 1)) v := fun v hv => by
    by_cases e : v = w
    · rw [e, pk_us, md_ne hw (Ne.symm huw), md_1 hu]
    · rw [pk_un e]
      by_cases e2 : v = u
      · rw [e2, pk_us, md_1 hw, md_ne hu huw]
      · rw [pk_un e2, md_ne hw e2, md_ne hu e]; exact he3 v hv
  have hLU : LandU h5 a (upd (upd N (48 + 8 * w + u) (nI 1)) (48 + 8 * u + w) (nI 1)) := hL.1.md (fun j hj => by rw [pk_un (by omega), pk_un (by omega)]) hL.2.2 ⟨_, r4, hR⟩ hU
  refine e_aload_n dX4_setMended_70 rfl ?_
  refine c_V0v (nc := 0) (ns := 0) (mc := 0) (ms := 0) (N := mX4_survey) dX4_setMended_71 lv_X4_81 mo_X4_survey hLU.cn (Nat.le_of_ble_eq_true rfl) (Nat.le_of_ble_eq_true rfl) (by decide) (k_survey D hLU hB hI2 hL.2.2) (fun h6 hP => ?_)
  obtain ⟨p1, p2, p3⟩ := hP
  exact e_vret dX4_setMended_74 rfl (hp _ ⟨p1, ⟨p2.1.trans hl, fun x hx => (p2.2 x hx).trans (hU x (by omega))⟩, p3.trans (hU _ (by omega))⟩)
set_option maxRecDepth 20000 in
theorem k_mend0 (D : En) {h : AH} {a : Nat} {N : Nat → Int32} (hL : LB h a N) (u w : Nat) (hu : u < 8) (hw : w < 8) (huw : ¬ u = w) (hI2 : IN (upd (upd N (48 + 8 * w + u) (nI 0)) (48 + 8 * u + w) (nI 0))) : Sp D 5 mX4_setMended [.ref a, .int (nI u), .int (nI w), .int (nI 0)] h 0 0 none (fun h' => LB h' a (upd (upd N (48 + 8 * w + u) (nI 0)) (48 + 8 * u + w) (nI 0)) ∧ FA a h h' ∧ h'[a + 4]? = h[a + 4]?) := by
  have ha := hL.2.2
  obtain ⟨hLo, -, -, ⟨f3, hr3, he3⟩, -⟩ := id hL.1
  intro post hp
  show Ev D 5 mX4_setMended 0 [some (.ref a), some (.int (nI u)), some (.int (nI w)), some (.int (nI 0))] [] h 0 0 post
  refine e_aload_n dX4_setMended_0 rfl ?_
  refine e_get dX4_setMended_1 fl_X4_34_4 hLo rfl ?_
  refine e_iload_n dX4_setMended_4 rfl ?_
  refine e_iload_n dX4_setMended_5 rfl ?_
  refine e_if_eqN 22 dX4_setMended_6 (by decide) (by omega) (fun z => ?_) (fun z => absurd rfl z)
  refine e_aload_n dX4_setMended_22 rfl ?_
  refine e_get dX4_setMended_23 fl_X4_34_4 hLo rfl ?_
  refine e_iload_n dX4_setMended_26 rfl ?_
  refine e_ild u (mdB N u) dX4_setMended_27 hr3 rfl (by omega) (by decide) (he3 u hu) ?_
  refine e_iconst (nI 1) dX4_setMended_28 (by decide) ?_
  refine e_iload_n dX4_setMended_29 rfl ?_
  refine e_ishl dX4_setMended_30 ?_
  refine e_iconst (-1) dX4_setMended_31 (by decide) ?_
  refine e_ixor dX4_setMended_32 ?_
  refine e_iand dX4_setMended_33 ?_
  refine e_ist u dX4_setMended_34 hr3 rfl (by omega) (by decide) ?_
  have r3 := getself (c := .inl (0, 8, .inl (upd f3 u (mdB N u &&& (nI 1 <<< (nI w &&& 31) ^^^ (-1)))))) hr3
  have hL1 := getset (b := a + 3) (c := .inl (0, 8, .inl (upd f3 u (mdB N u &&& (nI 1 <<< (nI w &&& 31) ^^^ (-1)))))) hLo (by omega)
  refine e_aload_n dX4_setMended_35 rfl ?_
  refine e_get dX4_setMended_36 fl_X4_34_4 hL1 rfl ?_
  refine e_iload_n dX4_setMended_39 rfl ?_
  refine e_iload_n dX4_setMended_40 rfl ?_
  refine e_if_eqN 57 dX4_setMended_41 (by decide) (by omega) (fun z => ?_) (fun z => absurd rfl z)
  refine e_aload_n dX4_setMended_57 rfl ?_
  refine e_get dX4_setMended_58 fl_X4_34_4 hL1 rfl ?_
  refine e_iload_n dX4_setMended_61 rfl ?_
  refine e_ild w (mdB N w) dX4_setMended_62 r3 rfl (by omega) (by decide) (by rw [pk_un (fun z => huw z.symm)]; exact he3 w hw) ?_
  refine e_iconst (nI 1) dX4_setMended_63 (by decide) ?_
  refine e_iload_n dX4_setMended_64 rfl ?_
  refine e_ishl dX4_setMended_65 ?_
  refine e_iconst (-1) dX4_setMended_66 (by decide) ?_
  refine e_ixor dX4_setMended_67 ?_
  refine e_iand dX4_setMended_68 ?_
  refine e_ist w dX4_setMended_69 r3 rfl (by omega) (by decide) ?_
  have r4 := getself (c := .inl (0, 8, .inl (upd (upd f3 u (mdB N u &&& (nI 1 <<< (nI w &&& 31) ^^^ (-1)))) w (mdB N w &&& (nI 1 <<< (nI u &&& 31) ^^^ (-1)))))) r3
  have hU : ∀ x, x ≠ a + 3 → ((h.set (a + 3) (.inl (0, 8, .inl (upd f3 u (mdB N u &&& (nI 1 <<< (nI w &&& 31) ^^^ (-1))))))).set (a + 3) (.inl (0, 8, .inl (upd (upd f3 u (mdB N u &&& (nI 1 <<< (nI w &&& 31) ^^^ (-1)))) w (mdB N w &&& (nI 1 <<< (nI u &&& 31) ^^^ (-1)))))))[x]? = h[x]? := fun x hx => getset (getset rfl (Ne.symm hx)) (Ne.symm hx)
  have hl : ((h.set (a + 3) (.inl (0, 8, .inl (upd f3 u (mdB N u &&& (nI 1 <<< (nI w &&& 31) ^^^ (-1))))))).set (a + 3) (.inl (0, 8, .inl (upd (upd f3 u (mdB N u &&& (nI 1 <<< (nI w &&& 31) ^^^ (-1)))) w (mdB N w &&& (nI 1 <<< (nI u &&& 31) ^^^ (-1))))))).length = h.length := by rw [List.length_set, List.length_set]
  have hB : RB ((h.set (a + 3) (.inl (0, 8, .inl (upd f3 u (mdB N u &&& (nI 1 <<< (nI w &&& 31) ^^^ (-1))))))).set (a + 3) (.inl (0, 8, .inl (upd (upd f3 u (mdB N u &&& (nI 1 <<< (nI w &&& 31) ^^^ (-1)))) w (mdB N w &&& (nI 1 <<< (nI u &&& 31) ^^^ (-1))))))) := (hL.2.1.set (by omega) (fun fs e => by cases e)).set (by omega) (fun fs e => by cases e)
  change Ev D 5 mX4_setMended 70 [some (.ref a), some (.int (nI u)), some (.int (nI w)), some (.int (nI 0))] [] ((h.set (a + 3) (.inl (0, 8, .inl (upd f3 u (mdB N u &&& (nI 1 <<< (nI w &&& 31) ^^^ (-1))))))).set (a + 3) (.inl (0, 8, .inl (upd (upd f3 u (mdB N u &&& (nI 1 <<< (nI w &&& 31) ^^^ (-1)))) w (mdB N w &&& (nI 1 <<< (nI u &&& 31) ^^^ (-1))))))) 0 0 post
  obtain ⟨h5, hh5⟩ : ∃ z, z = (h.set (a + 3) (.inl (0, 8, .inl (upd f3 u (mdB N u &&& (nI 1 <<< (nI w &&& 31) ^^^ (-1))))))).set (a + 3) (.inl (0, 8, .inl (upd (upd f3 u (mdB N u &&& (nI 1 <<< (nI w &&& 31) ^^^ (-1)))) w (mdB N w &&& (nI 1 <<< (nI u &&& 31) ^^^ (-1)))))) := ⟨_, rfl⟩
  rw [← hh5] at r4
  rw [← hh5] at hU
  rw [← hh5] at hl
  rw [← hh5] at hB
  rw [← hh5]
  clear hh5
  have hR : ∀ v, v < 8 → upd (upd f3 u (mdB N u &&& (nI 1 <<< (nI w &&& 31) ^^^ (-1)))) w (mdB N w &&& (nI 1 <<< (nI u &&& 31) ^^^ (-1))) v = mdB (upd (upd N (48 + 8 * w + u) (nI 0)) (48 + 8 * u + w) (nI 0)) v := fun v hv => by
    by_cases e : v = w
    · rw [e, pk_us, md_ne hw (Ne.symm huw), md_0 hu]
    · rw [pk_un e]
      by_cases e2 : v = u
      · rw [e2, pk_us, md_0 hw, md_ne hu huw]
      · rw [pk_un e2, md_ne hw e2, md_ne hu e]; exact he3 v hv
  have hLU : LandU h5 a (upd (upd N (48 + 8 * w + u) (nI 0)) (48 + 8 * u + w) (nI 0)) := hL.1.md (fun j hj => by rw [pk_un (by omega), pk_un (by omega)]) hL.2.2 ⟨_, r4, hR⟩ hU
  refine e_aload_n dX4_setMended_70 rfl ?_
  refine c_V0v (nc := 0) (ns := 0) (mc := 0) (ms := 0) (N := mX4_survey) dX4_setMended_71 lv_X4_81 mo_X4_survey hLU.cn (Nat.le_of_ble_eq_true rfl) (Nat.le_of_ble_eq_true rfl) (by decide) (k_survey D hLU hB hI2 hL.2.2) (fun h6 hP => ?_)
  obtain ⟨p1, p2, p3⟩ := hP
  exact e_vret dX4_setMended_74 rfl (hp _ ⟨p1, ⟨p2.1.trans hl, fun x hx => (p2.2 x hx).trans (hU x (by omega))⟩, p3.trans (hU _ (by omega))⟩)
