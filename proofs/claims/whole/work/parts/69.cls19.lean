set_option maxRecDepth 20000 in
theorem k_addT (D : En) {h : AH} {a b : Nat} {N N' : Nat → Int32} (hL : LB h a N) (hI : IN N) (ht : tcN N < 10) (hK : AT N N' (tcN N)) (hb : ThingAt h b (tcN N) N') (hT : TN h a (tcN N)) (hI2 : IN N') : Sp D 5 mX4_addThing [.ref a, .ref b] h 0 0 (some (.int (nI (tcN N)))) (fun h' => LB h' a N' ∧ FA a h h' ∧ TN h' a (tcN N')) := by
  have ha := hL.2.2
  obtain ⟨hLo, -, -, -, -, ⟨f5, hr5, -⟩, -, -, -, -, -, ⟨fG, hrG, -⟩⟩ := id hL.1
  obtain ⟨T4, hr4, t5⟩ := hT
  intro post hp
  show Ev D 5 mX4_addThing 0 [some (.ref a), some (.ref b), none] [] h 0 0 post
  refine e_aload_n dX4_addThing_0 rfl ?_
  refine e_get dX4_addThing_1 fl_X4_21_4 hLo rfl ?_
  refine e_top (nI (tcN N)) hI.1.2.2.1 ?_
  refine e_istore_n dX4_addThing_4 (by decide) ?_
  refine e_iload_n dX4_addThing_5 rfl ?_
  refine e_bipush (nI 10) dX4_addThing_6 (by decide) ?_
  refine e_icmp_ltN 13 dX4_addThing_8 (by decide) (by omega) (by omega) (fun hc => ?_) (fun hc => absurd hc (by omega))
  refine e_aload_n dX4_addThing_13 rfl ?_
  refine e_get dX4_addThing_14 fl_X4_39_4 hLo rfl ?_
  refine e_iload_n dX4_addThing_17 rfl ?_
  refine e_aload_n dX4_addThing_18 rfl ?_
  refine e_aas (tcN N) dX4_addThing_19 hr4 (Or.inl rfl) (Or.inl ⟨_, _, hb.2, as_thing _⟩) rfl (by omega) (by decide) (fun T t1 t2 => ?_)
  have l1 := getset (b := a + 4) (c := .inl (1, 10, .inr (.inr (.inr (.inr T))))) hLo (by omega)
  have r5 := getset (b := a + 4) (c := .inl (1, 10, .inr (.inr (.inr (.inr T))))) hr5 (by omega)
  refine e_aload_n dX4_addThing_20 rfl ?_
  refine e_get dX4_addThing_21 fl_X4_43_4 l1 rfl ?_
  refine e_iload_n dX4_addThing_24 rfl ?_
  refine e_iconst (-1) dX4_addThing_25 (by decide) ?_
  refine e_ist (tcN N) dX4_addThing_26 r5 rfl (by omega) (by decide) ?_
  have l2a := getset (b := a + 5) (c := .inl (0, 10, .inl (upd f5 (tcN N) (-1)))) l1 (by omega)
  have rg := getset (b := a + 5) (c := .inl (0, 10, .inl (upd f5 (tcN N) (-1)))) (getset (b := a + 4) (c := .inl (1, 10, .inr (.inr (.inr (.inr T))))) hrG (by omega)) (by omega)
  have hbn : ThingAt (((h.set (a + 4) (.inl (1, 10, .inr (.inr (.inr (.inr T)))))).set (a + 5) (.inl (0, 10, .inl (upd f5 (tcN N) (-1)))))) b (tcN N) N' := (hb.set _ (by omega)).set _ (by omega)
  refine e_aload_n dX4_addThing_27 rfl ?_
  refine e_get dX4_addThing_28 fl_X4_49_4 l2a rfl ?_
  refine e_iload_n dX4_addThing_31 rfl ?_
  refine e_aload_n dX4_addThing_32 rfl ?_
  refine vc_X4_84 rfl dX4_addThing_33 hbn (hI2.1.2.2.2.2.1 _ (by rw [hK.tc ht]; omega)).2.1 (Nat.le_of_ble_eq_true rfl) (by decide) ?_
  refine e_ist (tcN N) dX4_addThing_36 rg rfl (by omega) (by decide) ?_
  have l2 := getset (b := a + 7) (c := .inl (0, 10, .inl (upd fG (tcN N) (G0 (kdN N' (tcN N)))))) l2a (by omega)
  refine e_aload_n dX4_addThing_37 rfl ?_
  refine e_iload_n dX4_addThing_38 rfl ?_
  refine e_iconst (nI 1) dX4_addThing_39 (by decide) ?_
  refine c_V2v (nc := 0) (ns := 0) (mc := 0) (ms := 0) (N := mX4_setOpen) dX4_addThing_40 lv_X4_88 mo_X4_setOpen (Or.inl ⟨4, lnF a N, _, l2, rfl, rfl⟩) (Nat.le_of_ble_eq_true rfl) (Nat.le_of_ble_eq_true rfl) (by decide) (u_setOpen1 D l2 (tcN N)) (fun h3 hP => ?_)
  rw [hP]
  have l3 := getself (c := .inr (4, (lnF a N).set 4 (.int (opB N ||| nI 1 <<< (nI (tcN N) &&& 31))))) l2
  refine e_aload_n dX4_addThing_43 rfl ?_
  refine e_dup dX4_addThing_44 rfl ?_
  refine e_get dX4_addThing_45 fl_X4_21_4 l3 rfl ?_
  refine e_top (nI (tcN N)) hI.1.2.2.1 ?_
  refine e_iconst (nI 1) dX4_addThing_48 (by decide) ?_
  refine e_iaddN dX4_addThing_49 ?_
  refine e_put dX4_addThing_50 fl_X4_21_4 ft_4 (fun q hq => Or.inl (by cases hq; rfl)) l3 (by show _ < 16; decide) rfl rfl ?_
  have eo : ((lnF a N).set 4 (.int (opB N ||| nI 1 <<< (nI (tcN N) &&& 31)))).set 3 (.int (nI (tcN N + 1))) = lnF a N' := by
    unfold lnF
    rw [hK.1 0 (by omega) (by omega), hK.1 6 (by omega) (by omega), hK.1 1 (by omega) (by omega), hK.2.1, hK.op ht rfl]
    rfl
  rw [eo]
  have w0 := getself (c := .inr (4, lnF a N')) l3
  have w4 := getset (b := a) (c := .inr (4, lnF a N')) (getset (b := a) (c := .inr (4, (lnF a N).set 4 (.int (opB N ||| nI 1 <<< (nI (tcN N) &&& 31))))) (getset (b := a + 7) (c := .inl (0, 10, .inl (upd fG (tcN N) (G0 (kdN N' (tcN N)))))) (getset (b := a + 5) (c := .inl (0, 10, .inl (upd f5 (tcN N) (-1)))) (getself (c := .inl (1, 10, .inr (.inr (.inr (.inr T))))) hr4) (by omega)) (by omega)) (by omega)) (by omega)
  have w5 := getset (b := a) (c := .inr (4, lnF a N')) (getset (b := a) (c := .inr (4, (lnF a N).set 4 (.int (opB N ||| nI 1 <<< (nI (tcN N) &&& 31))))) (getset (b := a + 7) (c := .inl (0, 10, .inl (upd fG (tcN N) (G0 (kdN N' (tcN N)))))) (getself (c := .inl (0, 10, .inl (upd f5 (tcN N) (-1)))) r5) (by omega)) (by omega)) (by omega)
  have w7 := getset (b := a) (c := .inr (4, lnF a N')) (getset (b := a) (c := .inr (4, (lnF a N).set 4 (.int (opB N ||| nI 1 <<< (nI (tcN N) &&& 31))))) (getself (c := .inl (0, 10, .inl (upd fG (tcN N) (G0 (kdN N' (tcN N)))))) rg) (by omega)) (by omega)
  have hU : ∀ x, x ≠ a → x ≠ a + 4 → x ≠ a + 5 → x ≠ a + 7 → (((((h.set (a + 4) (.inl (1, 10, .inr (.inr (.inr (.inr T)))))).set (a + 5) (.inl (0, 10, .inl (upd f5 (tcN N) (-1))))).set (a + 7) (.inl (0, 10, .inl (upd fG (tcN N) (G0 (kdN N' (tcN N))))))).set a (.inr (4, (lnF a N).set 4 (.int (opB N ||| nI 1 <<< (nI (tcN N) &&& 31)))))).set a (.inr (4, lnF a N')))[x]? = h[x]? := fun x x1 x2 x3 x4 => getset (getset (getset (getset (getset rfl (Ne.symm x2)) (Ne.symm x3)) (Ne.symm x4)) (Ne.symm x1)) (Ne.symm x1)
  have hl : (((((h.set (a + 4) (.inl (1, 10, .inr (.inr (.inr (.inr T)))))).set (a + 5) (.inl (0, 10, .inl (upd f5 (tcN N) (-1))))).set (a + 7) (.inl (0, 10, .inl (upd fG (tcN N) (G0 (kdN N' (tcN N))))))).set a (.inr (4, (lnF a N).set 4 (.int (opB N ||| nI 1 <<< (nI (tcN N) &&& 31)))))).set a (.inr (4, lnF a N'))).length = h.length := by rw [List.length_set, List.length_set, List.length_set, List.length_set, List.length_set]
  have hB : RB (((((h.set (a + 4) (.inl (1, 10, .inr (.inr (.inr (.inr T)))))).set (a + 5) (.inl (0, 10, .inl (upd f5 (tcN N) (-1))))).set (a + 7) (.inl (0, 10, .inl (upd fG (tcN N) (G0 (kdN N' (tcN N))))))).set a (.inr (4, (lnF a N).set 4 (.int (opB N ||| nI 1 <<< (nI (tcN N) &&& 31)))))).set a (.inr (4, lnF a N'))) := ((((hL.2.1.set (by omega) (fun fs e => by cases e)).set (by omega) (fun fs e => by cases e)).set (by omega) (fun fs e => by cases e)).set (by omega) (fun fs e => by cases e)).set (by omega) (fun fs e => by cases e)
  change Ev D 5 mX4_addThing 53 [some (.ref a), some (.ref b), some (.int (nI (tcN N)))] [] (((((h.set (a + 4) (.inl (1, 10, .inr (.inr (.inr (.inr T)))))).set (a + 5) (.inl (0, 10, .inl (upd f5 (tcN N) (-1))))).set (a + 7) (.inl (0, 10, .inl (upd fG (tcN N) (G0 (kdN N' (tcN N))))))).set a (.inr (4, (lnF a N).set 4 (.int (opB N ||| nI 1 <<< (nI (tcN N) &&& 31)))))).set a (.inr (4, lnF a N'))) 0 0 post
  obtain ⟨h5, hh5⟩ : ∃ z, z = ((((h.set (a + 4) (.inl (1, 10, .inr (.inr (.inr (.inr T)))))).set (a + 5) (.inl (0, 10, .inl (upd f5 (tcN N) (-1))))).set (a + 7) (.inl (0, 10, .inl (upd fG (tcN N) (G0 (kdN N' (tcN N))))))).set a (.inr (4, (lnF a N).set 4 (.int (opB N ||| nI 1 <<< (nI (tcN N) &&& 31)))))).set a (.inr (4, lnF a N')) := ⟨_, rfl⟩
  rw [← hh5] at w0
  rw [← hh5] at w4
  rw [← hh5] at w5
  rw [← hh5] at w7
  rw [← hh5] at hU
  rw [← hh5] at hl
  rw [← hh5] at hB
  rw [← hh5]
  clear hh5
  have hLU : LandU h5 a N' := hL.1.th rfl ht hK hL.2.2 hb w0 hr4 w4 t1 t2 hr5 w5 hrG w7 hU
  refine e_aload_n dX4_addThing_53 rfl ?_
  refine c_V0v (nc := 0) (ns := 0) (mc := 0) (ms := 0) (N := mX4_survey) dX4_addThing_54 lv_X4_81 mo_X4_survey hLU.cn (Nat.le_of_ble_eq_true rfl) (Nat.le_of_ble_eq_true rfl) (by decide) (k_survey D hLU hB hI2 hL.2.2) (fun h6 hP => ?_)
  obtain ⟨p1, p2, p3⟩ := hP
  refine e_iload_n dX4_addThing_57 rfl ?_
  refine e_iret dX4_addThing_58 rfl (hp _ ⟨p1, ⟨p2.1.trans hl, fun x hx => (p2.2 x hx).trans (hU x (by omega) (by omega) (by omega) (by omega))⟩, T, p3.trans w4, fun i h1 h2 => ?_⟩)
  rw [hK.tc ht] at h1
  rw [t2 i (by omega)]
  exact t5 i (by omega) h2
