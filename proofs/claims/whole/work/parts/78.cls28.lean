theorem tc_setR {N : Nat → Int32} {v : Nat} {p y g o : Int32} : tcN (setR N v p y g o) = tcN N := by unfold tcN; rw [setR_ag (by decide) (by omega)]
theorem KT.st {N : Nat → Int32} {v : Nat} {p y g o : Int32} (hv : v < 8) : KT N (setR N v p y g o) := ⟨fun j a b => setR_ag (by omega) (by omega), fun j a b => setR_ag (by omega) (by omega)⟩
theorem FZ.st {a j : Nat} {h : AH} {c : AC} (hj : a ≤ j ∧ j ≤ a + 11) : FZ a h (h.set j c) := ⟨by rw [List.length_set], fun x => by
  by_cases e : x = j
  · exact Or.inr (Or.inl (by omega))
  · exact Or.inl (List.getElem?_set_ne (fun q => e q.symm))⟩
theorem ClsS.lset {h : AH} {s : SS} {N' : Nat → Int32} (hC : ClsS h s) (hI : IN (sN s)) {j : Nat} {c : AC} (hj : 13 ≤ j ∧ j ≤ 24 ∧ j ≠ 17) (hL : LB (h.set j c) 13 N') (htc : tcN N' = tcN (sN s)) (hk : KT (sN s) N') : ClsS (h.set j c) (wN s N') :=
  hC.land hI (FZ.st (by omega)) hL (by rw [htc]; exact hC.T.same (List.getElem?_set_ne (by omega))) hk
theorem tc_up {N : Nat → Int32} {k : Nat} {x : Int32} (hk : k ≠ 2) : tcN (upd N k x) = tcN N := by unfold tcN; rw [pk_un (fun e => hk e.symm)]
theorem ClsS.pr {h h' : AH} {s : SS} (hC : ClsS h s) (f : PR h h') : ClsS h' s :=
  hC.mv (fun _ => False) (fun x c hx hc => (f.2 x).imp (fun e => e.trans hc) id) (f.rb hC.rb) (by rw [f.1]; exact Nat.le_refl _) (fun x hx _ => f.lo hC.rb (by omega)) (fun x _ e => e) (Or.inl ⟨id, rfl⟩) (Or.inl ⟨fun _ _ _ => id, rfl⟩) (Or.inl ⟨fun _ _ _ => id, rfl, rfl⟩) (Or.inl (fun _ _ _ => id)) (Or.inl (fun _ _ _ => id)) id (Or.inl ⟨id, id, rfl⟩) (Or.inl ⟨id, rfl⟩) (Or.inl ⟨fun _ _ _ => id, rfl, rfl, rfl⟩)
theorem PR.frc {h h' : AH} (f : PR h h') (hB : RB h) : FrC h h' := ⟨by rw [f.1]; exact Nat.le_refl _, fun x hx => f.lo hB (by omega)⟩
theorem rg01 {x : Int32} (h : rg x 1) (h1 : ¬ x = nI 1) : x = nI 0 := by
  obtain ⟨e, -, l⟩ := wiN h (by decide) (by decide)
  rcases (show tn x = 0 ∨ tn x = 1 by omega) with q | q
  · rw [e, q]
  · exact absurd (by rw [e, q]) h1
theorem ClsS.w9 {h : AH} {s : SS} (hC : ClsS h s) (hI : IN (sN s)) (f : Nat → Int32) : ClsS (h.set 23 (.inl (0, 8, .inl f))) s := hC.lset hI (by omega) (hC.L.set (by decide) (fun fs e => by cases e) (hC.L.1.w9 hI (by decide) f)) rfl KT.rf
theorem LandAt.pc {h : AH} {a : Nat} {N : Nat → Int32} (hL : LandAt h a N) (hI : IN N) (ha : a + 11 < 101) (x : Int32) : LandU (h.set a (.inr (4, (lnF a N).set 1 (.int x)))) a (upd N 6 x) := by
  have htc10 := hI.1.2.2.2.1
  obtain ⟨hLo, ⟨f1, hr1, he1⟩, ⟨f2, hr2, he2⟩, ⟨f3, hr3, he3⟩, ⟨T4, hr4, he4⟩, ⟨f5, hr5, he5⟩, ⟨f6, hr6, he6⟩, ⟨f7, hr7, he7⟩, ⟨R8, hr8, he8⟩, ⟨f9, hr9⟩, ⟨f10, hr10⟩, ⟨fG, hrG, heG⟩⟩ := hL
  have htc : tcN (upd N 6 x) = tcN N := tc_up (by decide)
  have eop : opB (upd N 6 x) = opB N := by
    unfold opB
    rw [htc]
    refine orF_congr (fun i hi => ?_)
    unfold openR
    rw [pk_un (by omega)]
  have hU : ∀ y, y ≠ a → (h.set a (.inr (4, (lnF a N).set 1 (.int x))))[y]? = h[y]? := fun y e => List.getElem?_set_ne (fun q => e q.symm)
  have hH : ∀ y, 101 ≤ y → (h.set a (.inr (4, (lnF a N).set 1 (.int x))))[y]? = h[y]? := fun y e => hU y (by omega)
  refine ⟨?_, ⟨f1, (hU _ (by omega)).trans hr1, fun v hv => ?_⟩, ⟨f2, (hU _ (by omega)).trans hr2, fun v hv w hw => ?_⟩, ⟨f3, (hU _ (by omega)).trans hr3, fun v hv => ?_⟩, ⟨T4, (hU _ (by omega)).trans hr4, fun t ht => ?_⟩, ⟨f5, (hU _ (by omega)).trans hr5, fun t ht => ?_⟩, ⟨f6, (hU _ (by omega)).trans hr6⟩, ⟨f7, (hU _ (by omega)).trans hr7, fun j hj => ?_⟩, ⟨R8, (hU _ (by omega)).trans hr8, fun u hu => ?_⟩, ⟨f9, (hU _ (by omega)).trans hr9⟩, ⟨f10, (hU _ (by omega)).trans hr10⟩, ⟨fG, (hU _ (by omega)).trans hrG, fun t ht => ?_⟩⟩
  · rw [getself hLo]
    unfold lnF
    rw [eop, pk_us, show upd N 6 x 0 = N 0 from pk_un (by decide), show upd N 6 x 1 = N 1 from pk_un (by decide), show upd N 6 x 2 = N 2 from pk_un (by decide)]
    rfl
  · rw [pk_un (by omega)]; exact he1 v hv
  · rw [pk_un (by omega)]; exact he2 v hv w hw
  · rw [he3 v hv]
    unfold mdB
    refine orF_congr (fun i hi => ?_)
    rw [pk_un (by omega)]
  · rw [htc] at ht
    obtain ⟨b, e, hb⟩ := he4 t ht
    refine ⟨b, e, hb.1, (hH _ hb.1).trans ?_⟩
    rw [hb.2]
    unfold tgF kdN
    rw [pk_un (by omega), pk_un (by omega), pk_un (by omega), pk_un (by omega), pk_un (by omega)]
  · rw [htc] at ht
    rw [pk_un (by omega)]; exact he5 t ht
  · rw [pk_un (by omega)]; exact he7 j hj
  · rw [txN_upd x (by decide)]
    rcases he8 u hu with z | ⟨z, r, w, hr⟩
    · exact Or.inl z
    · exact Or.inr ⟨z, r, w, hr.hi hH⟩
  · rw [htc] at ht
    rw [show kdN (upd N 6 x) t = kdN N t by unfold kdN; rw [pk_un (by omega)]]; exact heG t ht
set_option maxRecDepth 20000 in
theorem cp_village (D : En) {h : AH} {s : SS} (hI : INV s) (hC : ClsS h s) (p : Int32) (y : Int32) (g : Int32) (o : Int32) : Sp D 6 mX11_village [.ref (11), .int (p), .int (y), .int (g), .int (o)] h 0 0 (some (.int (f_village s p y g o).1)) (fun h' => ClsS h' (f_village s p y g o).2 ∧ FrC h h') := by
  have hY := hI.1.1
  have hnv := hY.2.1
  have htc10 := hY.2.2.2.1
  obtain ⟨h00, hh00⟩ : ∃ z, z = h := ⟨_, rfl⟩
  have hF : FrC h00 h := by rw [hh00]; exact FrC.rf
  intro post hp
  rw [← hh00] at hp
  show Ev D 6 mX11_village 0 [some (.ref (11)), some (.int (p)), some (.int (y)), some (.int (g)), some (.int (o))] [] h 0 0 post
  refine e_iload_n dX11_village_0 rfl ?_
  refine e_iload_n dX11_village_1 rfl ?_
  refine e_iload_n dX11_village_2 rfl ?_
  refine e_iload dX11_village_3 rfl ?_
  refine c_S4iR (N := mX11_isVillageAsTold) dX11_village_5 ls_X11_50 mo_X11_isVillageAsTold  (Nat.le_of_ble_eq_true rfl) (Nat.le_of_ble_eq_true rfl) (by decide) (c_told D ((p)) ((y)) ((g)) ((o))) ?_
  refine e_if_neB 17 dX11_village_8 (by decide) (fun hcq8 => ?_) (fun hcq8 => ?_)
  · refine e_aload_n dX11_village_17 rfl ?_
    refine e_get dX11_village_18 fl_X11_10_11 hC.1 rfl ?_
    refine e_get dX11_village_21 fl_X11_58_2 hC.2.1.1 rfl ?_
    refine e_get dX11_village_24 fl_X11_61_4 hC.2.1.2.1.1 rfl ?_
    refine e_top (nI (nvN (sN s))) hY.1 ?_
    refine e_bipush (nI (8)) dX11_village_27 (by decide) ?_
    refine e_icmp_ltN 38 dX11_village_29 (by decide) (by omega) (by omega) (fun hcq29 => ?_) (fun hcq29 => ?_)
    · refine e_aload_n dX11_village_38 rfl ?_
      refine e_get dX11_village_39 fl_X11_10_11 hC.1 rfl ?_
      refine e_get dX11_village_42 fl_X11_58_2 hC.2.1.1 rfl ?_
      refine e_iload_n dX11_village_45 rfl ?_
      refine e_iload_n dX11_village_46 rfl ?_
      refine e_iload_n dX11_village_47 rfl ?_
      refine e_iload dX11_village_48 rfl ?_
      refine c_V4i (nc := 0) (ns := 0) (mc := 0) (ms := 0) (N := mX4_addVillage) dX11_village_50 lv_X11_64 mo_X4_addVillage hC.L.1.cn (Nat.le_of_ble_eq_true rfl) (Nat.le_of_ble_eq_true rfl) (by decide) (k_addV D hC.L hI.1 ((p)) ((y)) ((g)) ((o)) (by omega) (IN_set hI.1 rfl (by omega) hcq8.2.2.1 hcq8.2.2.2.1 hcq8.2.2.2.2)) (fun h hP => ?_)
      obtain ⟨hL2, hA2, hT2⟩ := hP
      have hF := hF.trans (hA2.z.frc hC.rb (by decide) (by decide))
      have hC := hC.land hI.1 hA2.z hL2 (by rw [tc_setR]; exact hC.T.same hT2) (KT.st (by omega))
      have e9 : f_village s p y g o = (nI (nvN (sN s)), wN s (setR (sN s) (nvN (sN s)) ((p)) ((y)) ((g)) ((o)))) := by rw [f_village, if_pos hcq8, if_neg (by omega)]
      rw [e9] at hp
      exact e_iret dX11_village_53 rfl (hp _ ⟨hC, hF⟩)
    · refine e_aload_n dX11_village_32 rfl ?_
      refine e_iconst (nI (4)) dX11_village_33 (by decide) ?_
      refine c_V1i (nc := 0) (ns := 0) (mc := 0) (ms := 0) (N := mX11_error) dX11_village_34 lv_X11_54 mo_X11_error hC.cn (Nat.le_of_ble_eq_true rfl) (Nat.le_of_ble_eq_true rfl) (by decide) (c_error D hC 4 (by decide)) (fun h hP => ?_)
      obtain ⟨hC, hF1⟩ := hP
      have hF := hF.trans hF1
      have e9 : f_village s p y g o = er 4 (s) := by rw [f_village, if_pos hcq8, if_pos (by omega)]
      rw [e9] at hp
      exact e_iret dX11_village_37 rfl (hp _ ⟨hC, hF⟩)
  · refine e_aload_n dX11_village_11 rfl ?_
    refine e_iconst (nI (1)) dX11_village_12 (by decide) ?_
    refine c_V1i (nc := 0) (ns := 0) (mc := 0) (ms := 0) (N := mX11_error) dX11_village_13 lv_X11_54 mo_X11_error hC.cn (Nat.le_of_ble_eq_true rfl) (Nat.le_of_ble_eq_true rfl) (by decide) (c_error D hC 1 (by decide)) (fun h hP => ?_)
    obtain ⟨hC, hF1⟩ := hP
    have hF := hF.trans hF1
    have e9 : f_village s p y g o = er 1 (s) := by rw [f_village, if_neg hcq8]
    rw [e9] at hp
    exact e_iret dX11_village_16 rfl (hp _ ⟨hC, hF⟩)
set_option maxRecDepth 20000 in
theorem cp_people (D : En) {h : AH} {s : SS} (hI : INV s) (hC : ClsS h s) (v : Int32) (w : Int32) : Sp D 2 mX11_people [.ref (11), .int (v), .int (w)] h 0 0 (some (.int (f_people s v w).1)) (fun h' => ClsS h' (f_people s v w).2 ∧ FrC h h') := by
  have hY := hI.1.1
  have hnv := hY.2.1
  have htc10 := hY.2.2.2.1
  obtain ⟨h00, hh00⟩ : ∃ z, z = h := ⟨_, rfl⟩
  have hF : FrC h00 h := by rw [hh00]; exact FrC.rf
  obtain ⟨hLo, ⟨f1, hr1, he1⟩, ⟨f2, hr2, he2⟩, ⟨f3, hr3, he3⟩, ⟨T4, hr4, he4⟩, ⟨f5, hr5, he5⟩, ⟨f6, hr6, he6⟩, ⟨f7, hr7, he7⟩, ⟨R8, hr8, he8⟩, ⟨f9, hr9⟩, ⟨f10, hr10⟩, ⟨fG, hrG, heG⟩⟩ := id hC.L.1
  intro post hp
  rw [← hh00] at hp
  show Ev D 2 mX11_people 0 [some (.ref (11)), some (.int (v)), some (.int (w))] [] h 0 0 post
  refine e_aload_n dX11_people_0 rfl ?_
  refine e_iload_n dX11_people_1 rfl ?_
  refine c_V1iR (N := mX11_isVillage) dX11_people_2 lv_X11_68 mo_X11_isVillage hC.cn (Nat.le_of_ble_eq_true rfl) (Nat.le_of_ble_eq_true rfl) (by decide) (c_isV D hC ((v))) ?_
  refine e_if_eqB 17 dX11_people_5 (by decide) (fun hcq5 => ?_) (fun hcq5 => ?_)
  · refine e_aload_n dX11_people_17 rfl ?_
    refine e_iconst (nI (1)) dX11_people_18 (by decide) ?_
    refine c_V1i (nc := 0) (ns := 0) (mc := 0) (ms := 0) (N := mX11_error) dX11_people_19 lv_X11_54 mo_X11_error hC.cn (Nat.le_of_ble_eq_true rfl) (Nat.le_of_ble_eq_true rfl) (by decide) (c_error D hC 1 (by decide)) (fun h hP => ?_)
    obtain ⟨hC, hF1⟩ := hP
    have hF := hF.trans hF1
    have e9 : f_people s v w = er 1 (s) := by rw [f_people, if_neg hcq5]
    rw [e9] at hp
    exact e_iret dX11_people_22 rfl (hp _ ⟨hC, hF⟩)
  · obtain ⟨hn_v, hl_v⟩ := isN hcq5 hY.1 (by omega)
    refine e_iload_n dX11_people_8 rfl ?_
    refine e_iconst (nI (0)) dX11_people_9 (by decide) ?_
    refine e_iconst (nI (4)) dX11_people_10 (by decide) ?_
    refine c_S3iR (N := mX11_within) dX11_people_11 ls_X11_72 mo_X11_within  (Nat.le_of_ble_eq_true rfl) (Nat.le_of_ble_eq_true rfl) (by decide) (c_within D ((w)) (nI (0)) (nI (4))) ?_
    refine e_if_neB 23 dX11_people_14 (by decide) (fun hcq14 => ?_) (fun hcq14 => ?_)
    · obtain ⟨hn_w, hg_w, hl_w⟩ := wiN hcq14 (by decide) (by decide)
      refine e_iload_n dX11_people_23 rfl ?_
      refine e_top (nI (tn w)) (hn_w) ?_
      refine e_iconst (nI (4)) dX11_people_24 (by decide) ?_
      refine e_icmp_neN 41 dX11_people_25 (by decide) (by omega) (by omega) (fun hcq25 => ?_) (fun hcq25 => ?_)
      · refine e_aload_n dX11_people_41 rfl ?_
        refine e_get dX11_people_42 fl_X11_10_11 hC.1 rfl ?_
        refine e_get dX11_people_45 fl_X11_58_2 hC.2.1.1 rfl ?_
        refine e_iload_n dX11_people_48 rfl ?_
        refine e_top (nI (tn v)) (hn_v) ?_
        refine e_iload_n dX11_people_49 rfl ?_
        refine e_top (nI (tn w)) (hn_w) ?_
        refine c_V2iR (N := mX4_peopleOf) dX11_people_50 lv_X11_79 mo_X4_peopleOf hC.L.1.cn (Nat.le_of_ble_eq_true rfl) (Nat.le_of_ble_eq_true rfl) (by decide) (k_peopleOf D hC.L.1 hI.1 (tn v) (tn w) (by omega) (by omega)) ?_
        have e9 : f_people s v w = ((thV (sN s) (tn v) (tn w)), s) := by rw [f_people, if_pos hcq5, if_pos hcq14]; rcases Nat.lt_or_ge (tn w) 3 with q | q; (rw [if_pos q, thV, if_neg (by omega)]); (rw [if_neg (by omega), if_pos (show tn w = 3 by omega), thV, if_pos (show tn w = 3 by omega)])
        rw [e9] at hp
        exact e_iret dX11_people_53 rfl (hp _ ⟨hC, hF⟩)
      · refine e_aload_n dX11_people_28 rfl ?_
        refine e_get dX11_people_29 fl_X11_10_11 hC.1 rfl ?_
        refine e_get dX11_people_32 fl_X11_58_2 hC.2.1.1 rfl ?_
        refine e_get dX11_people_35 fl_X11_76_4 hC.2.1.2.1.1 rfl ?_
        refine e_iload_n dX11_people_38 rfl ?_
        refine e_top (nI (tn v)) (hn_v) ?_
        refine e_ild (tn v) (((sN s) (16 + 4 * (tn v)))) dX11_people_39 hr1 rfl (by omega) (by decide) (he1 _ (by omega)) ?_
        have e9 : f_people s v w = (((sN s) (16 + 4 * (tn v))), s) := by rw [f_people, if_pos hcq5, if_pos hcq14, if_neg (by omega), if_neg (by omega)]
        rw [e9] at hp
        exact e_iret dX11_people_40 rfl (hp _ ⟨hC, hF⟩)
    · refine e_aload_n dX11_people_17 rfl ?_
      refine e_iconst (nI (1)) dX11_people_18 (by decide) ?_
      refine c_V1i (nc := 0) (ns := 0) (mc := 0) (ms := 0) (N := mX11_error) dX11_people_19 lv_X11_54 mo_X11_error hC.cn (Nat.le_of_ble_eq_true rfl) (Nat.le_of_ble_eq_true rfl) (by decide) (c_error D hC 1 (by decide)) (fun h hP => ?_)
      obtain ⟨hC, hF1⟩ := hP
      have hF := hF.trans hF1
      have e9 : f_people s v w = er 1 (s) := by rw [f_people, if_pos hcq5, if_neg hcq14]
      rw [e9] at hp
      exact e_iret dX11_people_22 rfl (hp _ ⟨hC, hF⟩)
set_option maxRecDepth 20000 in
theorem cp_become (D : En) {h : AH} {s : SS} (hI : INV s) (hC : ClsS h s) (v : Int32) (w : Int32) (x : Int32) : Sp D 2 mX11_become [.ref (11), .int (v), .int (w), .int (x)] h 0 0 (some (.int (f_become s v w x).1)) (fun h' => ClsS h' (f_become s v w x).2 ∧ FrC h h') := by
  have hY := hI.1.1
  have hnv := hY.2.1
  have htc10 := hY.2.2.2.1
  obtain ⟨h00, hh00⟩ : ∃ z, z = h := ⟨_, rfl⟩
  have hF : FrC h00 h := by rw [hh00]; exact FrC.rf
  obtain ⟨hLo, ⟨f1, hr1, he1⟩, ⟨f2, hr2, he2⟩, ⟨f3, hr3, he3⟩, ⟨T4, hr4, he4⟩, ⟨f5, hr5, he5⟩, ⟨f6, hr6, he6⟩, ⟨f7, hr7, he7⟩, ⟨R8, hr8, he8⟩, ⟨f9, hr9⟩, ⟨f10, hr10⟩, ⟨fG, hrG, heG⟩⟩ := id hC.L.1
  intro post hp
  rw [← hh00] at hp
  show Ev D 2 mX11_become 0 [some (.ref (11)), some (.int (v)), some (.int (w)), some (.int (x)), none] [] h 0 0 post
  refine e_aload_n dX11_become_0 rfl ?_
  refine e_iload_n dX11_become_1 rfl ?_
  refine c_V1iR (N := mX11_isVillage) dX11_become_2 lv_X11_68 mo_X11_isVillage hC.cn (Nat.le_of_ble_eq_true rfl) (Nat.le_of_ble_eq_true rfl) (by decide) (c_isV D hC ((v))) ?_
  refine e_if_eqB 27 dX11_become_5 (by decide) (fun hcq5 => ?_) (fun hcq5 => ?_)
  · refine e_aload_n dX11_become_27 rfl ?_
    refine e_iconst (nI (1)) dX11_become_28 (by decide) ?_
    refine c_V1i (nc := 0) (ns := 0) (mc := 0) (ms := 0) (N := mX11_error) dX11_become_29 lv_X11_54 mo_X11_error hC.cn (Nat.le_of_ble_eq_true rfl) (Nat.le_of_ble_eq_true rfl) (by decide) (c_error D hC 1 (by decide)) (fun h hP => ?_)
    obtain ⟨hC, hF1⟩ := hP
    have hF := hF.trans hF1
    have e9 : f_become s v w x = er 1 (s) := by rw [f_become, if_neg hcq5]
    rw [e9] at hp
    exact e_iret dX11_become_32 rfl (hp _ ⟨hC, hF⟩)
  · obtain ⟨hn_v, hl_v⟩ := isN hcq5 hY.1 (by omega)
    refine e_iload_n dX11_become_8 rfl ?_
    refine e_iconst (nI (0)) dX11_become_9 (by decide) ?_
    refine e_iconst (nI (2)) dX11_become_10 (by decide) ?_
    refine c_S3iR (N := mX11_within) dX11_become_11 ls_X11_72 mo_X11_within  (Nat.le_of_ble_eq_true rfl) (Nat.le_of_ble_eq_true rfl) (by decide) (c_within D ((w)) (nI (0)) (nI (2))) ?_
    refine e_if_eqB 27 dX11_become_14 (by decide) (fun hcq14 => ?_) (fun hcq14 => ?_)
    · refine e_aload_n dX11_become_27 rfl ?_
      refine e_iconst (nI (1)) dX11_become_28 (by decide) ?_
      refine c_V1i (nc := 0) (ns := 0) (mc := 0) (ms := 0) (N := mX11_error) dX11_become_29 lv_X11_54 mo_X11_error hC.cn (Nat.le_of_ble_eq_true rfl) (Nat.le_of_ble_eq_true rfl) (by decide) (c_error D hC 1 (by decide)) (fun h hP => ?_)
      obtain ⟨hC, hF1⟩ := hP
      have hF := hF.trans hF1
      have e9 : f_become s v w x = er 1 (s) := by rw [f_become, if_pos hcq5, if_neg hcq14]
      rw [e9] at hp
      exact e_iret dX11_become_32 rfl (hp _ ⟨hC, hF⟩)
    · obtain ⟨hn_w, hg_w, hl_w⟩ := wiN hcq14 (by decide) (by decide)
      refine e_iload_n dX11_become_17 rfl ?_
      refine e_iconst (nI (0)) dX11_become_18 (by decide) ?_
      refine e_ldc dX11_become_19 w_273 ?_
      refine e_top (nI 99999) (by decide) ?_
      refine c_S3iR (N := mX11_within) dX11_become_21 ls_X11_72 mo_X11_within  (Nat.le_of_ble_eq_true rfl) (Nat.le_of_ble_eq_true rfl) (by decide) (c_within D ((x)) (nI (0)) (nI (99999))) ?_
      refine e_if_neB 33 dX11_become_24 (by decide) (fun hcq24 => ?_) (fun hcq24 => ?_)
      · obtain ⟨hn_x, hg_x, hl_x⟩ := wiN hcq24 (by decide) (by decide)
        refine e_aload_n dX11_become_33 rfl ?_
        refine e_get dX11_become_34 fl_X11_10_11 hC.1 rfl ?_
        refine e_get dX11_become_37 fl_X11_58_2 hC.2.1.1 rfl ?_
        refine e_iload_n dX11_become_40 rfl ?_
        refine e_top (nI (tn v)) (hn_v) ?_
        refine e_iload_n dX11_become_41 rfl ?_
        refine e_top (nI (tn w)) (hn_w) ?_
        refine c_V2iR (N := mX4_peopleOf) dX11_become_42 lv_X11_79 mo_X4_peopleOf hC.L.1.cn (Nat.le_of_ble_eq_true rfl) (Nat.le_of_ble_eq_true rfl) (by decide) (k_peopleOf D hC.L.1 hI.1 (tn v) (tn w) (by omega) (by omega)) ?_
        refine e_top ((sN s (16 + 4 * tn v + 1 + tn w))) (by rw [thV, if_neg (by omega)]) ?_
        refine e_istore dX11_become_45 (by decide) ?_
        refine e_aload_n dX11_become_47 rfl ?_
        refine e_get dX11_become_48 fl_X11_10_11 hC.1 rfl ?_
        refine e_get dX11_become_51 fl_X11_58_2 hC.2.1.1 rfl ?_
        refine e_get dX11_become_54 fl_X11_84_4 hC.2.1.2.1.1 rfl ?_
        refine e_iconst (nI (3)) dX11_become_57 (by decide) ?_
        refine e_iload_n dX11_become_58 rfl ?_
        refine e_top (nI (tn v)) (hn_v) ?_
        refine e_imulN dX11_become_59 ?_
        refine e_iload_n dX11_become_60 rfl ?_
        refine e_top (nI (tn w)) (hn_w) ?_
        refine e_iaddN dX11_become_61 ?_
        refine e_iload_n dX11_become_62 rfl ?_
        refine e_ist ((3 * (tn v)) + (tn w)) dX11_become_63 hr2 rfl (by omega) (by decide) ?_
        have hF := hF.set (c := .inl (0, 24, .inl (upd f2 ((3 * (tn v)) + (tn w)) ((x))))) (show 11 ≤ 13 + 2 by decide) (show 13 + 2 < 82 by decide)
        have hC := hC.lset hI.1 (show 13 ≤ 13 + 2 ∧ 13 + 2 ≤ 24 ∧ 13 + 2 ≠ 17 by decide) (hC.L.set (by decide) (fun fs e => by cases e) (hC.L.1.pe hI.1 (by decide) hr2 (v := tn v) (w := tn w) (by omega) (by omega) ((x)))) (tc_up (by omega)) (KT.up (by omega))
        refine e_iload dX11_become_64 rfl ?_
        have e9 : f_become s v w x = ((sN s (16 + 4 * tn v + 1 + tn w)), wN s (upd (sN s) (16 + 4 * tn v + 1 + tn w) ((x)))) := by rw [f_become, if_pos hcq5, if_pos hcq14, if_pos hcq24]
        rw [e9] at hp
        exact e_iret dX11_become_66 rfl (hp _ ⟨hC, hF⟩)
      · refine e_aload_n dX11_become_27 rfl ?_
        refine e_iconst (nI (1)) dX11_become_28 (by decide) ?_
        refine c_V1i (nc := 0) (ns := 0) (mc := 0) (ms := 0) (N := mX11_error) dX11_become_29 lv_X11_54 mo_X11_error hC.cn (Nat.le_of_ble_eq_true rfl) (Nat.le_of_ble_eq_true rfl) (by decide) (c_error D hC 1 (by decide)) (fun h hP => ?_)
        obtain ⟨hC, hF1⟩ := hP
        have hF := hF.trans hF1
        have e9 : f_become s v w x = er 1 (s) := by rw [f_become, if_pos hcq5, if_pos hcq14, if_neg hcq24]
        rw [e9] at hp
        exact e_iret dX11_become_32 rfl (hp _ ⟨hC, hF⟩)
theorem FZ.trans {a : Nat} {h h1 h2 : AH} (f : FZ a h h1) (hB : RB h1) (ha : a + 11 < 101) (g : FZ a h1 h2) : FZ a h h2 := by
  refine ⟨g.1.trans f.1, fun x => ?_⟩
  rcases g.2 x with e2 | e2 | ⟨⟨q3, fs, qs⟩, q⟩
  · rcases f.2 x with e | e | ⟨e1, k, e3⟩
    · exact Or.inl (e2.trans e)
    · exact Or.inr (Or.inl e)
    · exact Or.inr (Or.inr ⟨e1, k, e2.trans e3⟩)
  · exact Or.inr (Or.inl e2)
  · have h97 := (hB _ fs qs).1
    rcases f.2 (x - 3) with w | w | ⟨-, k, w⟩
    · exact Or.inr (Or.inr ⟨⟨q3, fs, w.symm.trans qs⟩, q⟩)
    · omega
    · cases w.symm.trans qs
set_option maxRecDepth 20000 in
theorem cp_pace (D : En) {h : AH} {s : SS} (hI : INV s) (hC : ClsS h s) (x : Int32) : Sp D 5 mX11_pace [.ref (11), .int (x)] h 0 0 (some (.int (f_pace s x).1)) (fun h' => ClsS h' (f_pace s x).2 ∧ FrC h h') := by
  have hY := hI.1.1
  have hnv := hY.2.1
  have htc10 := hY.2.2.2.1
  obtain ⟨h00, hh00⟩ : ∃ z, z = h := ⟨_, rfl⟩
  have hF : FrC h00 h := by rw [hh00]; exact FrC.rf
  intro post hp
  rw [← hh00] at hp
  show Ev D 5 mX11_pace 0 [some (.ref (11)), some (.int (x)), none] [] h 0 0 post
  refine e_iload_n dX11_pace_0 rfl ?_
  refine e_iconst (nI (1)) dX11_pace_1 (by decide) ?_
  refine e_bipush (nI (9)) dX11_pace_2 (by decide) ?_
  refine c_S3iR (N := mX11_within) dX11_pace_4 ls_X11_72 mo_X11_within  (Nat.le_of_ble_eq_true rfl) (Nat.le_of_ble_eq_true rfl) (by decide) (c_within D ((x)) (nI (1)) (nI (9))) ?_
  refine e_if_neB 16 dX11_pace_7 (by decide) (fun hcq7 => ?_) (fun hcq7 => ?_)
  · obtain ⟨hn_x, hg_x, hl_x⟩ := wiN hcq7 (by decide) (by decide)
    refine e_aload_n dX11_pace_16 rfl ?_
    refine e_get dX11_pace_17 fl_X11_10_11 hC.1 rfl ?_
    refine e_get dX11_pace_20 fl_X11_58_2 hC.2.1.1 rfl ?_
    refine e_get dX11_pace_23 fl_X11_103_4 hC.2.1.2.1.1 rfl ?_
    refine e_istore_n dX11_pace_26 (by decide) ?_
    refine e_aload_n dX11_pace_27 rfl ?_
    refine e_get dX11_pace_28 fl_X11_10_11 hC.1 rfl ?_
    refine e_get dX11_pace_31 fl_X11_58_2 hC.2.1.1 rfl ?_
    refine e_iload_n dX11_pace_34 rfl ?_
    have e9 : f_pace s x = (sN s 6, wN s (upd (sN s) 6 x)) := by rw [f_pace, if_pos hcq7]
    have hI6 := (i_pace hI x)
    rw [e9] at hI6
    have hI6 : IN (upd (sN s) 6 x) := hI6.1
    refine e_put dX11_pace_35 fl_X11_103_4 ft_4 (fun q hq => Or.inl (by cases hq; rfl)) hC.2.1.2.1.1 (by show _ < 16; decide) rfl rfl ?_
    have hLU := hC.L.1.pc hI.1 (by decide) x
    have hB2 : RB (h.set 13 (.inr (4, (lnF 13 (sN s)).set 1 (.int x)))) := hC.rb.set (by decide) (fun fs e => by cases e)
    refine e_aload_n dX11_pace_38 rfl ?_
    refine e_get dX11_pace_39 fl_X11_10_11 (getset hC.1 (by decide)) rfl ?_
    refine e_get dX11_pace_42 fl_X11_58_2 (getset hC.2.1.1 (by decide)) rfl ?_
    refine c_V0v (nc := 0) (ns := 0) (mc := 0) (ms := 0) (N := mX4_survey) dX11_pace_45 lv_X11_106 mo_X4_survey hLU.cn (Nat.le_of_ble_eq_true rfl) (Nat.le_of_ble_eq_true rfl) (by decide) (k_survey D hLU hB2 hI6 (by decide)) (fun h hP => ?_)
    obtain ⟨hL2, hA2, hT2⟩ := hP
    have hF := (hF.set (c := .inr (4, (lnF 13 (sN s)).set 1 (.int x))) (show 11 ≤ 13 by decide) (show 13 < 82 by decide)).trans (hA2.z.frc hB2 (by decide) (by decide))
    have hC := hC.land hI.1 ((FZ.st (by decide)).trans hB2 (by decide) hA2.z) hL2 (by rw [tc_up (by decide)]; exact hC.T.same (hT2.trans (List.getElem?_set_ne (by decide)))) (KT.up (by decide))
    refine e_iload_n dX11_pace_48 rfl ?_
    have e9 : f_pace s x = (((sN s) 6), wN s (upd (sN s) 6 x)) := by rw [f_pace, if_pos hcq7]
    rw [e9] at hp
    exact e_iret dX11_pace_49 rfl (hp _ ⟨hC, hF⟩)
  · refine e_aload_n dX11_pace_10 rfl ?_
    refine e_iconst (nI (1)) dX11_pace_11 (by decide) ?_
    refine c_V1i (nc := 0) (ns := 0) (mc := 0) (ms := 0) (N := mX11_error) dX11_pace_12 lv_X11_54 mo_X11_error hC.cn (Nat.le_of_ble_eq_true rfl) (Nat.le_of_ble_eq_true rfl) (by decide) (c_error D hC 1 (by decide)) (fun h hP => ?_)
    obtain ⟨hC, hF1⟩ := hP
    have hF := hF.trans hF1
    have e9 : f_pace s x = er 1 (s) := by rw [f_pace, if_neg hcq7]
    rw [e9] at hp
    exact e_iret dX11_pace_15 rfl (hp _ ⟨hC, hF⟩)
set_option maxRecDepth 20000 in
theorem cp_way (D : En) {h : AH} {s : SS} (hI : INV s) (hC : ClsS h s) (a : Int32) (b : Int32) : Sp D 2 mX11_way [.ref (11), .int (a), .int (b)] h 0 0 (some (.int (f_way s a b).1)) (fun h' => ClsS h' (f_way s a b).2 ∧ FrC h h') := by
  have hY := hI.1.1
  have hnv := hY.2.1
  have htc10 := hY.2.2.2.1
  obtain ⟨h00, hh00⟩ : ∃ z, z = h := ⟨_, rfl⟩
  have hF : FrC h00 h := by rw [hh00]; exact FrC.rf
  intro post hp
  rw [← hh00] at hp
  show Ev D 2 mX11_way 0 [some (.ref (11)), some (.int (a)), some (.int (b))] [] h 0 0 post
  refine e_aload_n dX11_way_0 rfl ?_
  refine e_iload_n dX11_way_1 rfl ?_
  refine c_V1iR (N := mX11_isVillage) dX11_way_2 lv_X11_68 mo_X11_isVillage hC.cn (Nat.le_of_ble_eq_true rfl) (Nat.le_of_ble_eq_true rfl) (by decide) (c_isV D hC ((a))) ?_
  refine e_if_eqB 16 dX11_way_5 (by decide) (fun hcq5 => ?_) (fun hcq5 => ?_)
  · refine e_aload_n dX11_way_16 rfl ?_
    refine e_iconst (nI (1)) dX11_way_17 (by decide) ?_
    refine c_V1i (nc := 0) (ns := 0) (mc := 0) (ms := 0) (N := mX11_error) dX11_way_18 lv_X11_54 mo_X11_error hC.cn (Nat.le_of_ble_eq_true rfl) (Nat.le_of_ble_eq_true rfl) (by decide) (c_error D hC 1 (by decide)) (fun h hP => ?_)
    obtain ⟨hC, hF1⟩ := hP
    have hF := hF.trans hF1
    have e9 : f_way s a b = er 1 (s) := by rw [f_way, if_neg hcq5]
    rw [e9] at hp
    exact e_iret dX11_way_21 rfl (hp _ ⟨hC, hF⟩)
  · obtain ⟨hn_a, hl_a⟩ := isN hcq5 hY.1 (by omega)
    refine e_aload_n dX11_way_8 rfl ?_
    refine e_iload_n dX11_way_9 rfl ?_
    refine c_V1iR (N := mX11_isVillage) dX11_way_10 lv_X11_68 mo_X11_isVillage hC.cn (Nat.le_of_ble_eq_true rfl) (Nat.le_of_ble_eq_true rfl) (by decide) (c_isV D hC ((b))) ?_
    refine e_if_neB 22 dX11_way_13 (by decide) (fun hcq13 => ?_) (fun hcq13 => ?_)
    · obtain ⟨hn_b, hl_b⟩ := isN hcq13 hY.1 (by omega)
      refine e_aload_n dX11_way_22 rfl ?_
      refine e_get dX11_way_23 fl_X11_10_11 hC.1 rfl ?_
      refine e_get dX11_way_26 fl_X11_58_2 hC.2.1.1 rfl ?_
      refine e_iload_n dX11_way_29 rfl ?_
      refine e_top (nI (tn a)) (hn_a) ?_
      refine e_iload_n dX11_way_30 rfl ?_
      refine e_top (nI (tn b)) (hn_b) ?_
      refine c_V2iR (N := mX4_wayOf) dX11_way_31 lv_X11_109 mo_X4_wayOf hC.L.1.cn (Nat.le_of_ble_eq_true rfl) (Nat.le_of_ble_eq_true rfl) (by decide) (k_wayOf D hC.L.1 hI.1 (tn a) (tn b) (by omega) (by omega)) ?_
      have e9 : f_way s a b = ((wayR (sN s) (tn a) (tn b)), s) := by rw [f_way, if_pos hcq5, if_pos hcq13]
      rw [e9] at hp
      exact e_iret dX11_way_34 rfl (hp _ ⟨hC, hF⟩)
    · refine e_aload_n dX11_way_16 rfl ?_
      refine e_iconst (nI (1)) dX11_way_17 (by decide) ?_
      refine c_V1i (nc := 0) (ns := 0) (mc := 0) (ms := 0) (N := mX11_error) dX11_way_18 lv_X11_54 mo_X11_error hC.cn (Nat.le_of_ble_eq_true rfl) (Nat.le_of_ble_eq_true rfl) (by decide) (c_error D hC 1 (by decide)) (fun h hP => ?_)
      obtain ⟨hC, hF1⟩ := hP
      have hF := hF.trans hF1
      have e9 : f_way s a b = er 1 (s) := by rw [f_way, if_pos hcq5, if_neg hcq13]
      rw [e9] at hp
      exact e_iret dX11_way_21 rfl (hp _ ⟨hC, hF⟩)
set_option maxRecDepth 20000 in
theorem cp_mend (D : En) {h : AH} {s : SS} (hI : INV s) (hC : ClsS h s) (a : Int32) (b : Int32) (x : Int32) : Sp D 6 mX11_mend [.ref (11), .int (a), .int (b), .int (x)] h 0 0 (some (.int (f_mend s a b x).1)) (fun h' => ClsS h' (f_mend s a b x).2 ∧ FrC h h') := by
  have hY := hI.1.1
  have hnv := hY.2.1
  have htc10 := hY.2.2.2.1
  obtain ⟨h00, hh00⟩ : ∃ z, z = h := ⟨_, rfl⟩
  have hF : FrC h00 h := by rw [hh00]; exact FrC.rf
  intro post hp
  rw [← hh00] at hp
  show Ev D 6 mX11_mend 0 [some (.ref (11)), some (.int (a)), some (.int (b)), some (.int (x)), none] [] h 0 0 post
  refine e_aload_n dX11_mend_0 rfl ?_
  refine e_iload_n dX11_mend_1 rfl ?_
  refine c_V1iR (N := mX11_isVillage) dX11_mend_2 lv_X11_68 mo_X11_isVillage hC.cn (Nat.le_of_ble_eq_true rfl) (Nat.le_of_ble_eq_true rfl) (by decide) (c_isV D hC ((a))) ?_
  refine e_if_eqB 30 dX11_mend_5 (by decide) (fun hcq5 => ?_) (fun hcq5 => ?_)
  · refine e_aload_n dX11_mend_30 rfl ?_
    refine e_iconst (nI (1)) dX11_mend_31 (by decide) ?_
    refine c_V1i (nc := 0) (ns := 0) (mc := 0) (ms := 0) (N := mX11_error) dX11_mend_32 lv_X11_54 mo_X11_error hC.cn (Nat.le_of_ble_eq_true rfl) (Nat.le_of_ble_eq_true rfl) (by decide) (c_error D hC 1 (by decide)) (fun h hP => ?_)
    obtain ⟨hC, hF1⟩ := hP
    have hF := hF.trans hF1
    have e9 : f_mend s a b x = er 1 (s) := by rw [f_mend, if_neg hcq5]
    rw [e9] at hp
    exact e_iret dX11_mend_35 rfl (hp _ ⟨hC, hF⟩)
  · obtain ⟨hn_a, hl_a⟩ := isN hcq5 hY.1 (by omega)
    refine e_aload_n dX11_mend_8 rfl ?_
    refine e_iload_n dX11_mend_9 rfl ?_
    refine c_V1iR (N := mX11_isVillage) dX11_mend_10 lv_X11_68 mo_X11_isVillage hC.cn (Nat.le_of_ble_eq_true rfl) (Nat.le_of_ble_eq_true rfl) (by decide) (c_isV D hC ((b))) ?_
    refine e_if_eqB 30 dX11_mend_13 (by decide) (fun hcq13 => ?_) (fun hcq13 => ?_)
    · refine e_aload_n dX11_mend_30 rfl ?_
      refine e_iconst (nI (1)) dX11_mend_31 (by decide) ?_
      refine c_V1i (nc := 0) (ns := 0) (mc := 0) (ms := 0) (N := mX11_error) dX11_mend_32 lv_X11_54 mo_X11_error hC.cn (Nat.le_of_ble_eq_true rfl) (Nat.le_of_ble_eq_true rfl) (by decide) (c_error D hC 1 (by decide)) (fun h hP => ?_)
      obtain ⟨hC, hF1⟩ := hP
      have hF := hF.trans hF1
      have e9 : f_mend s a b x = er 1 (s) := by rw [f_mend, if_pos hcq5, if_neg hcq13]
      rw [e9] at hp
      exact e_iret dX11_mend_35 rfl (hp _ ⟨hC, hF⟩)
    · obtain ⟨hn_b, hl_b⟩ := isN hcq13 hY.1 (by omega)
      refine e_iload_n dX11_mend_16 rfl ?_
      refine e_top (nI (tn a)) (hn_a) ?_
      refine e_iload_n dX11_mend_17 rfl ?_
      refine e_top (nI (tn b)) (hn_b) ?_
      refine e_icmp_eqN 30 dX11_mend_18 (by decide) (by omega) (by omega) (fun hcq18 => ?_) (fun hcq18 => ?_)
      · refine e_aload_n dX11_mend_30 rfl ?_
        refine e_iconst (nI (1)) dX11_mend_31 (by decide) ?_
        refine c_V1i (nc := 0) (ns := 0) (mc := 0) (ms := 0) (N := mX11_error) dX11_mend_32 lv_X11_54 mo_X11_error hC.cn (Nat.le_of_ble_eq_true rfl) (Nat.le_of_ble_eq_true rfl) (by decide) (c_error D hC 1 (by decide)) (fun h hP => ?_)
        obtain ⟨hC, hF1⟩ := hP
        have hF := hF.trans hF1
        have e9 : f_mend s a b x = er 1 (s) := by rw [f_mend, if_pos hcq5, if_pos hcq13, if_pos hcq18]
        rw [e9] at hp
        exact e_iret dX11_mend_35 rfl (hp _ ⟨hC, hF⟩)
      · refine e_iload_n dX11_mend_21 rfl ?_
        refine e_iconst (nI (0)) dX11_mend_22 (by decide) ?_
        refine e_iconst (nI (1)) dX11_mend_23 (by decide) ?_
        refine c_S3iR (N := mX11_within) dX11_mend_24 ls_X11_72 mo_X11_within  (Nat.le_of_ble_eq_true rfl) (Nat.le_of_ble_eq_true rfl) (by decide) (c_within D ((x)) (nI (0)) (nI (1))) ?_
        refine e_if_neB 36 dX11_mend_27 (by decide) (fun hcq27 => ?_) (fun hcq27 => ?_)
        · obtain ⟨hn_x, hg_x, hl_x⟩ := wiN hcq27 (by decide) (by decide)
          refine e_aload_n dX11_mend_36 rfl ?_
          refine e_get dX11_mend_37 fl_X11_10_11 hC.1 rfl ?_
          refine e_get dX11_mend_40 fl_X11_58_2 hC.2.1.1 rfl ?_
          refine e_iload_n dX11_mend_43 rfl ?_
          refine e_top (nI (tn a)) (hn_a) ?_
          refine e_iload_n dX11_mend_44 rfl ?_
          refine e_top (nI (tn b)) (hn_b) ?_
          refine c_V2iR (N := mX4_isMended) dX11_mend_45 lv_X11_112 mo_X4_isMended hC.L.1.cn (Nat.le_of_ble_eq_true rfl) (Nat.le_of_ble_eq_true rfl) (by decide) (k_isMended D hC.L.1 hI.1 (tn a) (tn b) (by omega) (by omega)) ?_
          have K1 : Ev D 6 mX11_mend 56 [some (.ref (11)), some (.int (a)), some (.int (b)), some (.int (x)), none] [.int (sN s (48 + 8 * tn a + tn b))] h 0 0 post := by
            refine e_istore dX11_mend_56 (by decide) ?_
            refine e_aload_n dX11_mend_58 rfl ?_
            refine e_get dX11_mend_59 fl_X11_10_11 hC.1 rfl ?_
            refine e_get dX11_mend_62 fl_X11_58_2 hC.2.1.1 rfl ?_
            refine e_iload_n dX11_mend_65 rfl ?_
            refine e_top (nI (tn a)) (hn_a) ?_
            refine e_iload_n dX11_mend_66 rfl ?_
            refine e_top (nI (tn b)) (hn_b) ?_
            refine e_iload_n dX11_mend_67 rfl ?_
            refine e_top (nI (tn x)) (hn_x) ?_
            refine e_iconst (nI (1)) dX11_mend_68 (by decide) ?_
            refine e_icmp_neN 76 dX11_mend_69 (by decide) (by omega) (by omega) (fun hcq69 => ?_) (fun hcq69 => ?_)
            · have hx1 : x = nI 0 := by rw [hn_x, show tn x = 0 by omega]
              have e9 : f_mend s a b x = (sN s (48 + 8 * tn a + tn b), wN s (upd (upd (sN s) (48 + 8 * tn b + tn a) (nI 0)) (48 + 8 * tn a + tn b) (nI 0))) := by rw [f_mend, if_pos hcq5, if_pos hcq13, if_neg hcq18, if_pos hcq27, hx1]
              have hI6 := i_mend hI a b x
              rw [e9] at hI6
              have hI6 := hI6.1
              refine e_iconst (nI (0)) dX11_mend_76 (by decide) ?_
              refine c_V3v (nc := 0) (ns := 0) (mc := 0) (ms := 0) (N := mX4_setMended) dX11_mend_77 lv_X11_116 mo_X4_setMended hC.L.1.cn (Nat.le_of_ble_eq_true rfl) (Nat.le_of_ble_eq_true rfl) (by decide) (k_mend0 D hC.L (tn a) (tn b) (by omega) (by omega) hcq18 hI6) (fun h hP => ?_)
              obtain ⟨hL2, hA2, hT2⟩ := hP
              have hF := hF.trans (hA2.z.frc hC.rb (by decide) (by decide))
              have hC := hC.land hI.1 hA2.z hL2 (by rw [tc_up (by omega), tc_up (by omega)]; exact hC.T.same hT2) ((KT.up (by omega)).tr (KT.up (by omega)))
              refine e_iload dX11_mend_80 rfl ?_
              have e9 : f_mend s a b x = ((sN s (48 + 8 * tn a + tn b)), wN s (upd (upd (sN s) (48 + 8 * (tn b) + (tn a)) (nI 0)) (48 + 8 * (tn a) + (tn b)) (nI 0))) := e9
              rw [e9] at hp
              exact e_iret dX11_mend_82 rfl (hp _ ⟨hC, hF⟩)
            · have hx1 : x = nI 1 := by rw [hn_x, show tn x = 1 by omega]
              have e9 : f_mend s a b x = (sN s (48 + 8 * tn a + tn b), wN s (upd (upd (sN s) (48 + 8 * tn b + tn a) (nI 1)) (48 + 8 * tn a + tn b) (nI 1))) := by rw [f_mend, if_pos hcq5, if_pos hcq13, if_neg hcq18, if_pos hcq27, hx1]
              have hI6 := i_mend hI a b x
              rw [e9] at hI6
              have hI6 := hI6.1
              refine e_iconst (nI (1)) dX11_mend_72 (by decide) ?_
              refine e_goto 77 dX11_mend_73 (by decide) ?_
              refine c_V3v (nc := 0) (ns := 0) (mc := 0) (ms := 0) (N := mX4_setMended) dX11_mend_77 lv_X11_116 mo_X4_setMended hC.L.1.cn (Nat.le_of_ble_eq_true rfl) (Nat.le_of_ble_eq_true rfl) (by decide) (k_mend1 D hC.L (tn a) (tn b) (by omega) (by omega) hcq18 hI6) (fun h hP => ?_)
              obtain ⟨hL2, hA2, hT2⟩ := hP
              have hF := hF.trans (hA2.z.frc hC.rb (by decide) (by decide))
              have hC := hC.land hI.1 hA2.z hL2 (by rw [tc_up (by omega), tc_up (by omega)]; exact hC.T.same hT2) ((KT.up (by omega)).tr (KT.up (by omega)))
              refine e_iload dX11_mend_80 rfl ?_
              have e9 : f_mend s a b x = ((sN s (48 + 8 * tn a + tn b)), wN s (upd (upd (sN s) (48 + 8 * (tn b) + (tn a)) (nI 1)) (48 + 8 * (tn a) + (tn b)) (nI 1))) := e9
              rw [e9] at hp
              exact e_iret dX11_mend_82 rfl (hp _ ⟨hC, hF⟩)
          refine e_if_eqB 55 dX11_mend_48 (by decide) (fun hcq48 => ?_) (fun hcq48 => ?_)
          · refine e_iconst (nI (0)) dX11_mend_55 (by decide) ?_
            exact e_top ((sN s (48 + 8 * tn a + tn b))) (by first | exact (rg01 (hI.1.2.2.2.1.2.1 _ (by omega) _ (by omega)).1 hcq48).symm | exact hcq48.symm) K1
          · refine e_iconst (nI (1)) dX11_mend_51 (by decide) ?_
            refine e_goto 56 dX11_mend_52 (by decide) ?_
            exact e_top ((sN s (48 + 8 * tn a + tn b))) (by first | exact (rg01 (hI.1.2.2.2.1.2.1 _ (by omega) _ (by omega)).1 hcq48).symm | exact hcq48.symm) K1
        · refine e_aload_n dX11_mend_30 rfl ?_
          refine e_iconst (nI (1)) dX11_mend_31 (by decide) ?_
          refine c_V1i (nc := 0) (ns := 0) (mc := 0) (ms := 0) (N := mX11_error) dX11_mend_32 lv_X11_54 mo_X11_error hC.cn (Nat.le_of_ble_eq_true rfl) (Nat.le_of_ble_eq_true rfl) (by decide) (c_error D hC 1 (by decide)) (fun h hP => ?_)
          obtain ⟨hC, hF1⟩ := hP
          have hF := hF.trans hF1
          have e9 : f_mend s a b x = er 1 (s) := by rw [f_mend, if_pos hcq5, if_pos hcq13, if_neg hcq18, if_neg hcq27]
          rw [e9] at hp
          exact e_iret dX11_mend_35 rfl (hp _ ⟨hC, hF⟩)
set_option maxRecDepth 20000 in
theorem cp_open (D : En) {h : AH} {s : SS} (hI : INV s) (hC : ClsS h s) (t : Int32) (x : Int32) : Sp D 2 mX11_open [.ref (11), .int (t), .int (x)] h 0 0 (some (.int (f_open s t x).1)) (fun h' => ClsS h' (f_open s t x).2 ∧ FrC h h') := by
  have hY := hI.1.1
  have hnv := hY.2.1
  have htc10 := hY.2.2.2.1
  obtain ⟨h00, hh00⟩ : ∃ z, z = h := ⟨_, rfl⟩
  have hF : FrC h00 h := by rw [hh00]; exact FrC.rf
  intro post hp
  rw [← hh00] at hp
  show Ev D 2 mX11_open 0 [some (.ref (11)), some (.int (t)), some (.int (x)), none] [] h 0 0 post
  refine e_aload_n dX11_open_0 rfl ?_
  refine e_iload_n dX11_open_1 rfl ?_
  refine c_V1iR (N := mX11_isThing) dX11_open_2 lv_X11_131 mo_X11_isThing hC.cn (Nat.le_of_ble_eq_true rfl) (Nat.le_of_ble_eq_true rfl) (by decide) (c_isT D hC ((t))) ?_
  refine e_if_eqB 17 dX11_open_5 (by decide) (fun hcq5 => ?_) (fun hcq5 => ?_)
  · refine e_aload_n dX11_open_17 rfl ?_
    refine e_iconst (nI (1)) dX11_open_18 (by decide) ?_
    refine c_V1i (nc := 0) (ns := 0) (mc := 0) (ms := 0) (N := mX11_error) dX11_open_19 lv_X11_54 mo_X11_error hC.cn (Nat.le_of_ble_eq_true rfl) (Nat.le_of_ble_eq_true rfl) (by decide) (c_error D hC 1 (by decide)) (fun h hP => ?_)
    obtain ⟨hC, hF1⟩ := hP
    have hF := hF.trans hF1
    have e9 : f_open s t x = er 1 (s) := by rw [f_open, if_neg hcq5]
    rw [e9] at hp
    exact e_iret dX11_open_22 rfl (hp _ ⟨hC, hF⟩)
  · obtain ⟨hn_t, hl_t⟩ := isN hcq5 hY.2.2.1 (by omega)
    refine e_iload_n dX11_open_8 rfl ?_
    refine e_iconst (nI (0)) dX11_open_9 (by decide) ?_
    refine e_iconst (nI (1)) dX11_open_10 (by decide) ?_
    refine c_S3iR (N := mX11_within) dX11_open_11 ls_X11_72 mo_X11_within  (Nat.le_of_ble_eq_true rfl) (Nat.le_of_ble_eq_true rfl) (by decide) (c_within D ((x)) (nI (0)) (nI (1))) ?_
    refine e_if_neB 23 dX11_open_14 (by decide) (fun hcq14 => ?_) (fun hcq14 => ?_)
    · obtain ⟨hn_x, hg_x, hl_x⟩ := wiN hcq14 (by decide) (by decide)
      refine e_aload_n dX11_open_23 rfl ?_
      refine e_get dX11_open_24 fl_X11_10_11 hC.1 rfl ?_
      refine e_get dX11_open_27 fl_X11_58_2 hC.2.1.1 rfl ?_
      refine e_iload_n dX11_open_30 rfl ?_
      refine e_top (nI (tn t)) (hn_t) ?_
      refine c_V1iR (N := mX4_isOpen) dX11_open_31 lv_X11_155 mo_X4_isOpen hC.L.1.cn (Nat.le_of_ble_eq_true rfl) (Nat.le_of_ble_eq_true rfl) (by decide) (k_isOpen D hC.L.1 hI.1 (tn t) (by omega)) ?_
      have K1 : Ev D 2 mX11_open 42 [some (.ref (11)), some (.int (t)), some (.int (x)), none] [.int (sN s (112 + 7 * tn t + 5))] h 0 0 post := by
        refine e_istore_n dX11_open_42 (by decide) ?_
        refine e_aload_n dX11_open_43 rfl ?_
        refine e_get dX11_open_44 fl_X11_10_11 hC.1 rfl ?_
        refine e_get dX11_open_47 fl_X11_58_2 hC.2.1.1 rfl ?_
        refine e_iload_n dX11_open_50 rfl ?_
        refine e_top (nI (tn t)) (hn_t) ?_
        refine e_iload_n dX11_open_51 rfl ?_
        refine e_top (nI (tn x)) (hn_x) ?_
        refine e_iconst (nI (1)) dX11_open_52 (by decide) ?_
        refine e_icmp_neN 60 dX11_open_53 (by decide) (by omega) (by omega) (fun hcq53 => ?_) (fun hcq53 => ?_)
        · have hx1 : x = nI 0 := by rw [hn_x, show tn x = 0 by omega]
          have e9 : f_open s t x = (sN s (112 + 7 * tn t + 5), wN s (upd (sN s) (112 + 7 * tn t + 5) (nI 0))) := by rw [f_open, if_pos hcq5, if_pos hcq14, hx1]
          refine e_iconst (nI (0)) dX11_open_60 (by decide) ?_
          refine c_V2v (nc := 0) (ns := 0) (mc := 0) (ms := 0) (N := mX4_setOpen) dX11_open_61 lv_X11_174 mo_X4_setOpen hC.L.1.cn (Nat.le_of_ble_eq_true rfl) (Nat.le_of_ble_eq_true rfl) (by decide) (k_setOpen0 D hC.L.1 hI.1 (by decide) (tn t) (by omega)) (fun h hP => ?_)
          obtain ⟨y9, hh9, hy9⟩ := hP
          rw [hh9]
          have hF := hF.set (c := .inr (4, (lnF 13 (sN s)).set 4 (.int y9))) (show 11 ≤ 13 by decide) (show 13 < 82 by decide)
          have hC := hC.lset hI.1 (show 13 ≤ 13 ∧ 13 ≤ 24 ∧ 13 ≠ 17 by decide) (hC.L.set (by decide) (fun fs e => by cases e) (hC.L.1.op hI.1 (by decide) (t := tn t) (by omega) (nI 0) y9 hy9)) (tc_up (by omega)) (KT.up (by omega))
          refine e_iload_n dX11_open_64 rfl ?_
          have e9 : f_open s t x = ((sN s (112 + 7 * tn t + 5)), wN s (upd (sN s) (112 + 7 * (tn t) + 5) (nI 0))) := e9
          rw [e9] at hp
          exact e_iret dX11_open_65 rfl (hp _ ⟨hC, hF⟩)
        · have hx1 : x = nI 1 := by rw [hn_x, show tn x = 1 by omega]
          have e9 : f_open s t x = (sN s (112 + 7 * tn t + 5), wN s (upd (sN s) (112 + 7 * tn t + 5) (nI 1))) := by rw [f_open, if_pos hcq5, if_pos hcq14, hx1]
          refine e_iconst (nI (1)) dX11_open_56 (by decide) ?_
          refine e_goto 61 dX11_open_57 (by decide) ?_
          refine c_V2v (nc := 0) (ns := 0) (mc := 0) (ms := 0) (N := mX4_setOpen) dX11_open_61 lv_X11_174 mo_X4_setOpen hC.L.1.cn (Nat.le_of_ble_eq_true rfl) (Nat.le_of_ble_eq_true rfl) (by decide) (k_setOpen1 D hC.L.1 hI.1 (by decide) (tn t) (by omega)) (fun h hP => ?_)
          obtain ⟨y9, hh9, hy9⟩ := hP
          rw [hh9]
          have hF := hF.set (c := .inr (4, (lnF 13 (sN s)).set 4 (.int y9))) (show 11 ≤ 13 by decide) (show 13 < 82 by decide)
          have hC := hC.lset hI.1 (show 13 ≤ 13 ∧ 13 ≤ 24 ∧ 13 ≠ 17 by decide) (hC.L.set (by decide) (fun fs e => by cases e) (hC.L.1.op hI.1 (by decide) (t := tn t) (by omega) (nI 1) y9 hy9)) (tc_up (by omega)) (KT.up (by omega))
          refine e_iload_n dX11_open_64 rfl ?_
          have e9 : f_open s t x = ((sN s (112 + 7 * tn t + 5)), wN s (upd (sN s) (112 + 7 * (tn t) + 5) (nI 1))) := e9
          rw [e9] at hp
          exact e_iret dX11_open_65 rfl (hp _ ⟨hC, hF⟩)
      refine e_if_eqB 41 dX11_open_34 (by decide) (fun hcq34 => ?_) (fun hcq34 => ?_)
      · refine e_iconst (nI (0)) dX11_open_41 (by decide) ?_
        exact e_top ((sN s (112 + 7 * tn t + 5))) (by first | exact (rg01 (hI.1.2.2.2.1.2.2.1 _ (by omega)).1 hcq34).symm | exact hcq34.symm) K1
      · refine e_iconst (nI (1)) dX11_open_37 (by decide) ?_
        refine e_goto 42 dX11_open_38 (by decide) ?_
        exact e_top ((sN s (112 + 7 * tn t + 5))) (by first | exact (rg01 (hI.1.2.2.2.1.2.2.1 _ (by omega)).1 hcq34).symm | exact hcq34.symm) K1
    · refine e_aload_n dX11_open_17 rfl ?_
      refine e_iconst (nI (1)) dX11_open_18 (by decide) ?_
      refine c_V1i (nc := 0) (ns := 0) (mc := 0) (ms := 0) (N := mX11_error) dX11_open_19 lv_X11_54 mo_X11_error hC.cn (Nat.le_of_ble_eq_true rfl) (Nat.le_of_ble_eq_true rfl) (by decide) (c_error D hC 1 (by decide)) (fun h hP => ?_)
      obtain ⟨hC, hF1⟩ := hP
      have hF := hF.trans hF1
      have e9 : f_open s t x = er 1 (s) := by rw [f_open, if_pos hcq5, if_neg hcq14]
      rw [e9] at hp
      exact e_iret dX11_open_22 rfl (hp _ ⟨hC, hF⟩)
set_option maxRecDepth 20000 in
theorem cp_promise (D : En) {h : AH} {s : SS} (hI : INV s) (hC : ClsS h s) (t : Int32) (x : Int32) : Sp D 2 mX11_promise [.ref (11), .int (t), .int (x)] h 0 0 (some (.int (f_promise s t x).1)) (fun h' => ClsS h' (f_promise s t x).2 ∧ FrC h h') := by
  have hY := hI.1.1
  have hnv := hY.2.1
  have htc10 := hY.2.2.2.1
  obtain ⟨h00, hh00⟩ : ∃ z, z = h := ⟨_, rfl⟩
  have hF : FrC h00 h := by rw [hh00]; exact FrC.rf
  obtain ⟨hLo, ⟨f1, hr1, he1⟩, ⟨f2, hr2, he2⟩, ⟨f3, hr3, he3⟩, ⟨T4, hr4, he4⟩, ⟨f5, hr5, he5⟩, ⟨f6, hr6, he6⟩, ⟨f7, hr7, he7⟩, ⟨R8, hr8, he8⟩, ⟨f9, hr9⟩, ⟨f10, hr10⟩, ⟨fG, hrG, heG⟩⟩ := id hC.L.1
  intro post hp
  rw [← hh00] at hp
  show Ev D 2 mX11_promise 0 [some (.ref (11)), some (.int (t)), some (.int (x)), none] [] h 0 0 post
  refine e_aload_n dX11_promise_0 rfl ?_
  refine e_iload_n dX11_promise_1 rfl ?_
  refine c_V1iR (N := mX11_isThing) dX11_promise_2 lv_X11_131 mo_X11_isThing hC.cn (Nat.le_of_ble_eq_true rfl) (Nat.le_of_ble_eq_true rfl) (by decide) (c_isT D hC ((t))) ?_
  refine e_if_eqB 19 dX11_promise_5 (by decide) (fun hcq5 => ?_) (fun hcq5 => ?_)
  · refine e_aload_n dX11_promise_19 rfl ?_
    refine e_iconst (nI (1)) dX11_promise_20 (by decide) ?_
    refine c_V1i (nc := 0) (ns := 0) (mc := 0) (ms := 0) (N := mX11_error) dX11_promise_21 lv_X11_54 mo_X11_error hC.cn (Nat.le_of_ble_eq_true rfl) (Nat.le_of_ble_eq_true rfl) (by decide) (c_error D hC 1 (by decide)) (fun h hP => ?_)
    obtain ⟨hC, hF1⟩ := hP
    have hF := hF.trans hF1
    have e9 : f_promise s t x = er 1 (s) := by rw [f_promise, if_neg hcq5]
    rw [e9] at hp
    exact e_iret dX11_promise_24 rfl (hp _ ⟨hC, hF⟩)
  · obtain ⟨hn_t, hl_t⟩ := isN hcq5 hY.2.2.1 (by omega)
    refine e_iload_n dX11_promise_8 rfl ?_
    refine e_iconst (((-1))) dX11_promise_9 (by decide) ?_
    refine e_sipush (nI (199)) dX11_promise_10 (by decide) ?_
    refine c_S3iR (N := mX11_within) dX11_promise_13 ls_X11_72 mo_X11_within  (Nat.le_of_ble_eq_true rfl) (Nat.le_of_ble_eq_true rfl) (by decide) (c_within D ((x)) (((-1))) (nI (199))) ?_
    refine e_if_neB 25 dX11_promise_16 (by decide) (fun hcq16 => ?_) (fun hcq16 => ?_)
    · refine e_aload_n dX11_promise_25 rfl ?_
      refine e_get dX11_promise_26 fl_X11_10_11 hC.1 rfl ?_
      refine e_get dX11_promise_29 fl_X11_58_2 hC.2.1.1 rfl ?_
      refine e_get dX11_promise_32 fl_X11_158_4 hC.2.1.2.1.1 rfl ?_
      refine e_iload_n dX11_promise_35 rfl ?_
      refine e_top (nI (tn t)) (hn_t) ?_
      refine e_ild (tn t) (((sN s) (112 + 7 * (tn t) + 6))) dX11_promise_36 hr5 rfl (by omega) (by decide) (he5 _ (by omega)) ?_
      refine e_istore_n dX11_promise_37 (by decide) ?_
      refine e_aload_n dX11_promise_38 rfl ?_
      refine e_get dX11_promise_39 fl_X11_10_11 hC.1 rfl ?_
      refine e_get dX11_promise_42 fl_X11_58_2 hC.2.1.1 rfl ?_
      refine e_get dX11_promise_45 fl_X11_158_4 hC.2.1.2.1.1 rfl ?_
      refine e_iload_n dX11_promise_48 rfl ?_
      refine e_top (nI (tn t)) (hn_t) ?_
      refine e_iload_n dX11_promise_49 rfl ?_
      refine e_ist (tn t) dX11_promise_50 hr5 rfl (by omega) (by decide) ?_
      have hF := hF.set (c := .inl (0, 10, .inl (upd f5 (tn t) ((x))))) (show 11 ≤ 13 + 5 by decide) (show 13 + 5 < 82 by decide)
      have hC := hC.lset hI.1 (show 13 ≤ 13 + 5 ∧ 13 + 5 ≤ 24 ∧ 13 + 5 ≠ 17 by decide) (hC.L.set (by decide) (fun fs e => by cases e) (hC.L.1.pr hI.1 (by decide) hr5 (t := tn t) (by omega) ((x)))) (tc_up (by omega)) (KT.up (by omega))
      refine e_iload_n dX11_promise_51 rfl ?_
      have e9 : f_promise s t x = (((sN s) (112 + 7 * (tn t) + 6)), wN s (upd (sN s) (112 + 7 * tn t + 6) ((x)))) := by rw [f_promise, if_pos hcq5, if_pos hcq16]
      rw [e9] at hp
      exact e_iret dX11_promise_52 rfl (hp _ ⟨hC, hF⟩)
    · refine e_aload_n dX11_promise_19 rfl ?_
      refine e_iconst (nI (1)) dX11_promise_20 (by decide) ?_
      refine c_V1i (nc := 0) (ns := 0) (mc := 0) (ms := 0) (N := mX11_error) dX11_promise_21 lv_X11_54 mo_X11_error hC.cn (Nat.le_of_ble_eq_true rfl) (Nat.le_of_ble_eq_true rfl) (by decide) (c_error D hC 1 (by decide)) (fun h hP => ?_)
      obtain ⟨hC, hF1⟩ := hP
      have hF := hF.trans hF1
      have e9 : f_promise s t x = er 1 (s) := by rw [f_promise, if_pos hcq5, if_neg hcq16]
      rw [e9] at hp
      exact e_iret dX11_promise_24 rfl (hp _ ⟨hC, hF⟩)
set_option maxRecDepth 20000 in
theorem cp_comfort (D : En) {h : AH} {s : SS} (hI : INV s) (hC : ClsS h s) (v : Int32) : Sp D 5 mX11_comfort [.ref (11), .int (v)] h 0 0 (some (.int (f_comfort s v).1)) (fun h' => ClsS h' (f_comfort s v).2 ∧ FrC h h') := by
  have hY := hI.1.1
  have hnv := hY.2.1
  have htc10 := hY.2.2.2.1
  obtain ⟨h00, hh00⟩ : ∃ z, z = h := ⟨_, rfl⟩
  have hF : FrC h00 h := by rw [hh00]; exact FrC.rf
  intro post hp
  rw [← hh00] at hp
  show Ev D 5 mX11_comfort 0 [some (.ref (11)), some (.int (v))] [] h 0 0 post
  refine e_aload_n dX11_comfort_0 rfl ?_
  refine e_iload_n dX11_comfort_1 rfl ?_
  refine c_V1iR (N := mX11_isVillage) dX11_comfort_2 lv_X11_68 mo_X11_isVillage hC.cn (Nat.le_of_ble_eq_true rfl) (Nat.le_of_ble_eq_true rfl) (by decide) (c_isV D hC ((v))) ?_
  refine e_if_neB 14 dX11_comfort_5 (by decide) (fun hcq5 => ?_) (fun hcq5 => ?_)
  · obtain ⟨hn_v, hl_v⟩ := isN hcq5 hY.1 (by omega)
    refine e_aload_n dX11_comfort_14 rfl ?_
    refine e_get dX11_comfort_15 fl_X11_10_11 hC.1 rfl ?_
    refine e_get dX11_comfort_18 fl_X11_58_2 hC.2.1.1 rfl ?_
    refine e_iload_n dX11_comfort_21 rfl ?_
    refine e_top (nI (tn v)) (hn_v) ?_
    refine c_V1iR (N := mX4_comfortOf) dX11_comfort_22 lv_X11_178 mo_X4_comfortOf hC.L.1.cn (Nat.le_of_ble_eq_true rfl) (Nat.le_of_ble_eq_true rfl) (by decide) (k_comfortOf D hC.L.1 hI.1 (tn v) (by omega)) ?_
    have e9 : f_comfort s v = ((cfN (sN s) (tn v)), s) := by rw [f_comfort, if_pos hcq5]
    rw [e9] at hp
    exact e_iret dX11_comfort_25 rfl (hp _ ⟨hC, hF⟩)
  · refine e_aload_n dX11_comfort_8 rfl ?_
    refine e_iconst (nI (1)) dX11_comfort_9 (by decide) ?_
    refine c_V1i (nc := 0) (ns := 0) (mc := 0) (ms := 0) (N := mX11_error) dX11_comfort_10 lv_X11_54 mo_X11_error hC.cn (Nat.le_of_ble_eq_true rfl) (Nat.le_of_ble_eq_true rfl) (by decide) (c_error D hC 1 (by decide)) (fun h hP => ?_)
    obtain ⟨hC, hF1⟩ := hP
    have hF := hF.trans hF1
    have e9 : f_comfort s v = er 1 (s) := by rw [f_comfort, if_neg hcq5]
    rw [e9] at hp
    exact e_iret dX11_comfort_13 rfl (hp _ ⟨hC, hF⟩)
set_option maxRecDepth 20000 in
theorem cp_haven (D : En) {h : AH} {s : SS} (hI : INV s) (hC : ClsS h s)  : Sp D 6 mX11_haven [.ref (11)] h 0 0 (some (.int (f_haven s).1)) (fun h' => ClsS h' (f_haven s).2 ∧ FrC h h') := by
  have hY := hI.1.1
  have hnv := hY.2.1
  have htc10 := hY.2.2.2.1
  obtain ⟨h00, hh00⟩ : ∃ z, z = h := ⟨_, rfl⟩
  have hF : FrC h00 h := by rw [hh00]; exact FrC.rf
  obtain ⟨hLo, ⟨f1, hr1, he1⟩, ⟨f2, hr2, he2⟩, ⟨f3, hr3, he3⟩, ⟨T4, hr4, he4⟩, ⟨f5, hr5, he5⟩, ⟨f6, hr6, he6⟩, ⟨f7, hr7, he7⟩, ⟨R8, hr8, he8⟩, ⟨f9, hr9⟩, ⟨f10, hr10⟩, ⟨fG, hrG, heG⟩⟩ := id hC.L.1
  intro post hp
  rw [← hh00] at hp
  show Ev D 6 mX11_haven 0 [some (.ref (11))] [] h 0 0 post
  refine e_aload_n dX11_haven_0 rfl ?_
  refine e_get dX11_haven_1 fl_X11_10_11 hC.1 rfl ?_
  refine e_get dX11_haven_4 fl_X11_58_2 hC.2.1.1 rfl ?_
  refine e_get dX11_haven_7 fl_X11_61_4 hC.2.1.2.1.1 rfl ?_
  refine e_top (nI (nvN (sN s))) hY.1 ?_
  refine e_if_neN 19 dX11_haven_10 (by decide) (by omega) (fun hcq10 => ?_) (fun hcq10 => ?_)
  · refine e_aload_n dX11_haven_19 rfl ?_
    refine e_get dX11_haven_20 fl_X11_10_11 hC.1 rfl ?_
    refine e_get dX11_haven_23 fl_X11_58_2 hC.2.1.1 rfl ?_
    refine c_V0v (nc := 0) (ns := 0) (mc := 0) (ms := 0) (N := mX4_weighComforts) dX11_haven_26 lv_X11_181 mo_X4_weighComforts hC.L.1.cn (Nat.le_of_ble_eq_true rfl) (Nat.le_of_ble_eq_true rfl) (by decide) (k_weigh D hC.L.1 hI.1 (by decide)) (fun h hP => ?_)
    obtain ⟨C9, hh9, hc9⟩ := hP
    rw [hh9]
    have hF := hF.set (c := .inl (0, 8, .inl C9)) (show 11 ≤ 23 by decide) (show 23 < 82 by decide)
    have hC9 : Row0 _ 23 8 C9 := getself hr9
    have hC := hC.w9 hI.1 C9
    refine e_aload_n dX11_haven_29 rfl ?_
    refine e_get dX11_haven_30 fl_X11_10_11 hC.1 rfl ?_
    refine e_get dX11_haven_33 fl_X11_58_2 hC.2.1.1 rfl ?_
    refine c_V0iR (N := mX4_mostComfort) dX11_haven_36 lv_X11_184 mo_X4_mostComfort hC.L.1.cn (Nat.le_of_ble_eq_true rfl) (Nat.le_of_ble_eq_true rfl) (by decide) (k_mostComfort D hC.L.1 hI.1 hC9) ?_
    refine e_top (nI (havW (cfN (sN s)) (nvN (sN s)))) (by rw [havW_congr hc9]) ?_
    have e9 : f_haven s = (nI (havW (cfN (sN s)) (nvN (sN s))), s) := by rw [f_haven, if_neg hcq10]
    rw [e9] at hp
    exact e_iret dX11_haven_39 rfl (hp _ ⟨hC, hF⟩)
  · refine e_aload_n dX11_haven_13 rfl ?_
    refine e_iconst (nI (2)) dX11_haven_14 (by decide) ?_
    refine c_V1i (nc := 0) (ns := 0) (mc := 0) (ms := 0) (N := mX11_error) dX11_haven_15 lv_X11_54 mo_X11_error hC.cn (Nat.le_of_ble_eq_true rfl) (Nat.le_of_ble_eq_true rfl) (by decide) (c_error D hC 2 (by decide)) (fun h hP => ?_)
    obtain ⟨hC, hF1⟩ := hP
    have hF := hF.trans hF1
    have e9 : f_haven s = er 2 (s) := by rw [f_haven, if_pos hcq10]
    rw [e9] at hp
    exact e_iret dX11_haven_18 rfl (hp _ ⟨hC, hF⟩)
theorem gv0_b (w : List Nat) (a b c d : Int32) : givenR w 0 a b c d = nI 0 ∨ givenR w 0 a b c d = nI 1 := by
  rw [gv0]
  split <;> (unfold b2; split <;> first | exact Or.inl rfl | exact Or.inr rfl)
theorem sw_out {u : Int32} {m : Nat} (h : ¬ (nI 0 ≤ u ∧ u ≤ nI m)) (hm : m < 2 ^ 31) : u.toInt < 0 ∨ (m : Int) < u.toInt := by
  by_cases q : u.toInt < 0
  · exact Or.inl q
  · refine Or.inr (Decidable.of_not_not fun w => h ⟨?_, ?_⟩)
    · rw [Int32.le_iff_toInt_le, nI_toInt (by decide)]; omega
    · rw [Int32.le_iff_toInt_le, nI_toInt hm]; omega
