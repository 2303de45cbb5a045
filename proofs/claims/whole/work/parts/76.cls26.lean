/-- alike but for tape, waiting numbers and seed -/
def KL (N N' : Nat → Int32) : Prop := ∀ j, (j < 3 ∨ 6 ≤ j) → (j < 182 ∨ 252 ≤ j) → N' j = N j
theorem KL.up {N : Nat → Int32} {k : Nat} {x : Int32} (hk : (3 ≤ k ∧ k < 6) ∨ (182 ≤ k ∧ k < 252)) : KL N (upd N k x) := fun j a b => pk_un (by omega)
theorem KL.tr {A B C : Nat → Int32} (x : KL A B) (y : KL B C) : KL A C := fun j a b => (y j a b).trans (x j a b)
theorem LandAt.kl {h : AH} {a : Nat} {N N' : Nat → Int32} (hL : LandAt h a N) (hI : IN N) (k : KL N N') : LandAt h a N' := by
  have hA : AG N N' := fun j hj => k j (by unfold ST at hj; omega) (by unfold ST at hj; omega)
  have htc10 := hI.1.2.2.2.1
  have hnv := hI.1.2.1
  obtain ⟨hLo, ⟨f1, hr1, he1⟩, ⟨f2, hr2, he2⟩, ⟨f3, hr3, he3⟩, ⟨T4, hr4, he4⟩, ⟨f5, hr5, he5⟩, ⟨f6, hr6, he6⟩, ⟨f7, hr7, he7⟩, ⟨R8, hr8, he8⟩, ⟨f9, hr9⟩, ⟨f10, hr10⟩, ⟨fG, hrG, heG⟩⟩ := hL
  have eop : opB N' = opB N := by
    unfold opB
    rw [hA.tc]
    refine orF_congr (fun i hi => ?_)
    unfold openR
    rw [k _ (by omega) (by omega)]
  refine ⟨?_, ⟨f1, hr1, fun v hv => ?_⟩, ⟨f2, hr2, fun v hv w hw => ?_⟩, ⟨f3, hr3, fun v hv => ?_⟩, ⟨T4, hr4, fun t ht => ?_⟩, ⟨f5, hr5, fun t ht => ?_⟩, ⟨f6, hr6, fun t ht => ?_⟩, ⟨f7, hr7, fun j hj => ?_⟩, ⟨R8, hr8, fun u hu => ?_⟩, ⟨f9, hr9⟩, ⟨f10, hr10⟩, ⟨fG, hrG, fun t ht => ?_⟩⟩
  · unfold lnF
    rw [eop, k 0 (by omega) (by omega), k 6 (by omega) (by omega), k 1 (by omega) (by omega), k 2 (by omega) (by omega)]
    exact hLo
  · rw [k _ (by omega) (by omega)]; exact he1 v hv
  · rw [k _ (by omega) (by omega)]; exact he2 v hv w hw
  · rw [hA.md hv]; exact he3 v hv
  · rw [hA.tc] at ht
    obtain ⟨b, e, hb⟩ := he4 t ht
    exact ⟨b, e, hA.thing (by omega) hb⟩
  · rw [hA.tc] at ht
    rw [k _ (by omega) (by omega)]; exact he5 t ht
  · rw [hA.tc] at ht
    rw [hA.nv, hA.sv hnv (by omega) (hI.1.2.2.2.2.1 _ ht).2.2.2]; exact he6 t ht
  · rw [k _ (by omega) (by omega)]; exact he7 j hj
  · rw [hA.tx]; exact he8 u hu
  · rw [hA.tc] at ht
    rw [hA.kd (by omega)]; exact heG t ht
theorem ClsS.desk {h h' : AH} {s : SS} {N' : Nat → Int32} (hC : ClsS h s) (hI : IN (sN s)) (hl : h'.length = h.length) (hU : ∀ x, x ≠ 12 → x ≠ 25 → x ≠ 26 → x ≠ 27 → x ≠ 28 → h'[x]? = h[x]?) (k : KL (sN s) N') (k0 : h'[12]? = some (.inr (2, dkF 12 (N' 5)))) (k1 : TpA h' 25 N') (k2 : WtA h' 27 N') : ClsS h' (wN s N') := by
  have htc : tcN N' = tcN (sN s) := by unfold tcN; rw [k 2 (by omega) (by omega)]
  have hB : RB h' := by
    intro r fs hr
    obtain ⟨f, b, r1, -⟩ := k1
    obtain ⟨f2, b2, r2, -⟩ := k2
    by_cases e12 : r = 12
    · rw [e12] at hr; cases k0.symm.trans hr
    by_cases e24 : r = 25
    · rw [e24] at hr; cases r1.1.symm.trans hr
    by_cases e25 : r = 26
    · rw [e25] at hr; cases r1.2.symm.trans hr
    by_cases e26 : r = 27
    · rw [e26] at hr; cases r2.1.symm.trans hr
    by_cases e27 : r = 28
    · rw [e27] at hr; cases r2.2.symm.trans hr
    rw [hU r e12 e24 e25 e26 e27] at hr
    obtain ⟨q1, ⟨gs, q2⟩, ⟨c, q3⟩, ⟨p, q4⟩⟩ := hC.rb r fs hr
    exact ⟨q1, ⟨gs, (hU _ (by omega) (by omega) (by omega) (by omega) (by omega)).trans q2⟩, ⟨c, (hU _ (by omega) (by omega) (by omega) (by omega) (by omega)).trans q3⟩, ⟨p, (hU _ (by omega) (by omega) (by omega) (by omega) (by omega)).trans q4⟩⟩
  have g : HG h h' := fun x c hx hc => Or.inl ((hU x (by omega) (by omega) (by omega) (by omega) (by omega)).trans hc)
  refine hC.mv (fun x => x = 12 ∨ (25 ≤ x ∧ x ≤ 28)) g hB (by rw [hl]; exact Nat.le_refl _) (fun x hx hn => hU x (by omega) (by omega) (by omega) (by omega) (by omega)) (fun x hx hn => by omega) (Or.inl ⟨by omega, rfl⟩) (Or.inr ⟨k0, ?_, ?_, k1, k2⟩) (Or.inl ⟨fun x _ _ => by omega, rfl, rfl⟩) (Or.inl (fun x _ _ => by omega)) (Or.inl (fun x _ _ => by omega)) (by omega) (Or.inl ⟨by omega, by omega, rfl⟩) (Or.inl ⟨by omega, rfl⟩) (Or.inl ⟨fun x _ _ => by omega, rfl, rfl, rfl⟩)
  · exact (hC.2.1.2.1.hg hC.rb g (fun x _ _ => hU x (by omega) (by omega) (by omega) (by omega) (by omega))).kl hI k
  · show TN h' 13 (tcN N')
    rw [htc]
    exact hC.T.same (hU _ (by decide) (by decide) (by decide) (by decide) (by decide))
theorem ClsS.z {h : AH} {s : SS} (hC : ClsS h s) (hI : IN (sN s)) (x : Int32) : ClsS (h.set 12 (.inr (2, dkF 12 x))) (wN s (upd (sN s) 5 x)) := by
  refine hC.desk hI (by rw [List.length_set]) (fun y a _ _ _ _ => List.getElem?_set_ne (fun e => a e.symm)) (KL.up (by omega)) ?_ ?_ ?_
  · rw [pk_us]; exact getself hC.2.1.1
  · exact hC.2.1.2.2.2.1.same (List.getElem?_set_ne (by decide)) (List.getElem?_set_ne (by decide)) (pk_un (by decide)) (fun i hi => pk_un (by omega)) hI.2.1.2
  · exact hC.2.1.2.2.2.2.same (List.getElem?_set_ne (by decide)) (List.getElem?_set_ne (by decide)) (pk_un (by decide)) (fun i hi => pk_un (by omega)) hI.2.2.1.2
theorem ClsS.wait {h h' : AH} {s : SS} {N' : Nat → Int32} (hC : ClsS h s) (hI : IN (sN s)) (f : FO 27 h h') (k : KL (sN s) N') (h5 : N' 5 = sN s 5) (h3 : N' 3 = sN s 3) (ht : ∀ i, i < 50 → N' (182 + i) = sN s (182 + i)) (k2 : WtA h' 27 N') : ClsS h' (wN s N') :=
  hC.desk hI f.1 (fun x _ _ _ a b => f.2 x a b) k (by rw [h5]; exact (f.2 _ (by decide) (by decide)).trans hC.2.1.1) (hC.2.1.2.2.2.1.same (f.2 _ (by decide) (by decide)) (f.2 _ (by decide) (by decide)) h3 ht hI.2.1.2) k2
theorem ClsS.tape {h h' : AH} {s : SS} {N' : Nat → Int32} (hC : ClsS h s) (hI : IN (sN s)) (f : FO 25 h h') (k : KL (sN s) N') (h5 : N' 5 = sN s 5) (h4 : N' 4 = sN s 4) (ht : ∀ i, i < 20 → N' (232 + i) = sN s (232 + i)) (k1 : TpA h' 25 N') : ClsS h' (wN s N') :=
  hC.desk hI f.1 (fun x _ a b _ _ => f.2 x a b) k (by rw [h5]; exact (f.2 _ (by decide) (by decide)).trans hC.2.1.1) k1 (hC.2.1.2.2.2.2.same (f.2 _ (by decide) (by decide)) (f.2 _ (by decide) (by decide)) h4 ht hI.2.2.1.2)
theorem FO.frc {a : Nat} {h h' : AH} (f : FO a h h') (h1 : 11 ≤ a) (h2 : a + 1 < 82) : FrC h h' := ⟨by rw [f.1]; exact Nat.le_refl _, fun x hx => f.2 x (by omega) (by omega)⟩
set_option maxRecDepth 20000 in
theorem c_draw (D : En) {h : AH} {s : SS} (hC : ClsS h s) (hI : IN (sN s)) : Sp D 0 mX2_draw [.ref 12] h 0 0 (some (.int (((drZ (sN s 5)).toUInt32 >>> ((nI 8).toUInt32 &&& Int32.toUInt32 31)).toInt32))) (fun h' => ClsS h' (wN s (upd (sN s) 5 (drZ (sN s 5)))) ∧ FrC h h') := by
  intro post hp
  show Ev D 0 mX2_draw 0 [some (.ref 12)] [] h 0 0 post
  have h1 := hC.2.1.1
  refine e_aload_n dX2_draw_0 rfl ?_
  refine e_aload_n dX2_draw_1 rfl ?_
  refine e_get dX2_draw_2 fl_X2_30_2 h1 rfl ?_
  refine e_ldc dX2_draw_5 w_359 ?_
  refine e_imul dX2_draw_7 ?_
  refine e_sipush (nI 12345) dX2_draw_8 (by decide) ?_
  refine e_iadd dX2_draw_11 ?_
  refine e_top (drZ (sN s 5)) rfl ?_
  refine e_put dX2_draw_12 fl_X2_30_2 ft_2 (fun q hq => Or.inl (by cases hq; rfl)) h1 (by show _ < 4; decide) rfl rfl ?_
  refine e_aload_n dX2_draw_15 rfl ?_
  refine e_get dX2_draw_16 fl_X2_30_2 (getself h1) rfl ?_
  refine e_bipush (nI 8) dX2_draw_19 (by decide) ?_
  refine e_iushr dX2_draw_21 ?_
  exact e_iret dX2_draw_22 rfl (hp _ ⟨hC.z hI _, FrC.rf.set (by decide) (by decide)⟩)
set_option maxRecDepth 20000 in
theorem k_dcopy (D : En) {h : AH} {a b : Nat} {N : Nat → Int32} (hA : DShp h a) (ha : a + 16 < 82) (hB : DeskAt h b N) (hb : b + 16 < 82) (hR : RB h) (hI : IN N) (hab : a + 16 < b ∨ b + 16 < a) : Sp D 2 mX2_copyFrom [.ref a, .ref b] h 0 0 none (fun h' => DeskAt h' a N ∧ RB h' ∧ h'.length = h.length ∧ ∀ x, (x < a ∨ a + 16 < x) → h'[x]? = h[x]?) := by
  obtain ⟨⟨z0, p1⟩, p2, ⟨g1, y1, u1, p3⟩, ⟨g2, y2, u2, p4⟩⟩ := hA
  obtain ⟨q1, q2, q3, ⟨f1, v1, q4, t4⟩, ⟨f2, v2, q5, t5⟩⟩ := hB
  rw [hI.2.1.1] at q4
  rw [hI.2.2.1.1] at q5
  intro post hp
  show Ev D 2 mX2_copyFrom 0 [some (.ref a), some (.ref b)] [] h 0 0 post
  refine e_aload_n dX2_copyFrom_0 rfl ?_
  refine e_get dX2_copyFrom_1 fl_X2_12_2 p1 rfl ?_
  refine e_aload_n dX2_copyFrom_4 rfl ?_
  refine e_get dX2_copyFrom_5 fl_X2_12_2 q1 rfl ?_
  have hLB : LB h (b + 1) N := ⟨q2, hR, by omega⟩
  obtain ⟨M0, pLo⟩ := id p2.1
  refine c_V1v (nc := 0) (ns := 0) (mc := 0) (ms := 0) (N := mX4_copyFrom) dX2_copyFrom_8 lv_X2_35 mo_X4_copyFrom (Or.inl ⟨4, _, _, pLo, rfl, rfl⟩) (Nat.le_of_ble_eq_true rfl) (Nat.le_of_ble_eq_true rfl) (by decide) (k_copy D p2 (by omega) hLB hI q3 (by omega)) (fun h1 hP => ?_)
  obtain ⟨l1, l2, l3, l4⟩ := hP
  have a1 := (l4 a (by omega)).trans p1
  have b1 := (l4 b (by omega)).trans q1
  have w3 := p3.same (l4 (a + 13) (by omega)) (l4 (a + 13 + 1) (by omega))
  have w4 := p4.same (l4 (a + 15) (by omega)) (l4 (a + 15 + 1) (by omega))
  have x4 := q4.same (l4 (b + 13) (by omega)) (l4 (b + 13 + 1) (by omega))
  have x5 := q5.same (l4 (b + 15) (by omega)) (l4 (b + 15 + 1) (by omega))
  refine e_aload_n dX2_copyFrom_11 rfl ?_
  refine e_get dX2_copyFrom_12 fl_X2_23_2 a1 rfl ?_
  refine e_aload_n dX2_copyFrom_15 rfl ?_
  refine e_get dX2_copyFrom_16 fl_X2_23_2 b1 rfl ?_
  refine c_V1v (nc := 0) (ns := 0) (mc := 0) (ms := 0) (N := mX5_copyFrom) dX2_copyFrom_19 lv_X2_39 mo_X5_copyFrom w3.cn (Nat.le_of_ble_eq_true rfl) (Nat.le_of_ble_eq_true rfl) (by decide) (k_rcopy D w3 x4 hI.2.1.2 (by decide) (by omega)) (fun h2 hP => ?_)
  obtain ⟨g3, m1, m2, m3, m4⟩ := hP
  have a2 := (m4 a (by omega) (by omega)).trans a1
  have b2 := (m4 b (by omega) (by omega)).trans b1
  have w5 := w4.same (m4 (a + 15) (by omega) (by omega)) (m4 (a + 15 + 1) (by omega) (by omega))
  have x6 := x5.same (m4 (b + 15) (by omega) (by omega)) (m4 (b + 15 + 1) (by omega) (by omega))
  refine e_aload_n dX2_copyFrom_22 rfl ?_
  refine e_get dX2_copyFrom_23 fl_X2_27_2 a2 rfl ?_
  refine e_aload_n dX2_copyFrom_26 rfl ?_
  refine e_get dX2_copyFrom_27 fl_X2_27_2 b2 rfl ?_
  refine c_V1v (nc := 0) (ns := 0) (mc := 0) (ms := 0) (N := mX5_copyFrom) dX2_copyFrom_30 lv_X2_39 mo_X5_copyFrom w5.cn (Nat.le_of_ble_eq_true rfl) (Nat.le_of_ble_eq_true rfl) (by decide) (k_rcopy D w5 x6 hI.2.2.1.2 (by decide) (by omega)) (fun h3 hP => ?_)
  obtain ⟨g4, n1, n2, n3, n4⟩ := hP
  have a3 := (n4 a (by omega) (by omega)).trans a2
  have b3 := (n4 b (by omega) (by omega)).trans b2
  have m5 := m1.same (n4 (a + 13) (by omega) (by omega)) (n4 (a + 13 + 1) (by omega) (by omega))
  refine e_aload_n dX2_copyFrom_33 rfl ?_
  refine e_aload_n dX2_copyFrom_34 rfl ?_
  refine e_get dX2_copyFrom_35 fl_X2_30_2 b3 rfl ?_
  refine e_put dX2_copyFrom_38 fl_X2_30_2 ft_2 (fun q hq => Or.inl (by cases hq; rfl)) a3 (by show _ < 4; decide) rfl rfl ?_
  have hK : ∀ x, x ≠ a → x ≠ a + 13 → x ≠ a + 14 → x ≠ a + 15 → x ≠ a + 16 → (h3.set a (.inr (2, dkF a (N 5))))[x]? = h1[x]? := fun x e1 e2 e3 e4 e5 => (List.getElem?_set_ne (fun e => e1 e.symm)).trans ((n4 x (by omega) (by omega)).trans (m4 x (by omega) (by omega)))
  have hR3 : RB (h3.set a (.inr (2, dkF a (N 5)))) := by
    have r2 : RB h3 := by
      intro r fs hr
      have e0 : r ≠ a + 13 ∧ r ≠ a + 14 ∧ r ≠ a + 15 ∧ r ≠ a + 16 := by
        refine ⟨fun e => ?_, fun e => ?_, fun e => ?_, fun e => ?_⟩
        · rw [e] at hr; cases m5.1.symm.trans hr
        · rw [e] at hr; cases m5.2.symm.trans hr
        · rw [e] at hr; cases n1.1.symm.trans hr
        · rw [e] at hr; cases n1.2.symm.trans hr
      have hK2 : ∀ x, x ≠ a + 13 → x ≠ a + 14 → x ≠ a + 15 → x ≠ a + 16 → h3[x]? = h1[x]? := fun x e2 e3 e4 e5 => (n4 x (by omega) (by omega)).trans (m4 x (by omega) (by omega))
      rw [hK2 r e0.1 e0.2.1 e0.2.2.1 e0.2.2.2] at hr
      obtain ⟨c1, ⟨gs, c2⟩, ⟨c, c3⟩, ⟨p, c4⟩⟩ := l1.2.1 r fs hr
      exact ⟨c1, ⟨gs, (hK2 _ (by omega) (by omega) (by omega) (by omega)).trans c2⟩, ⟨c, (hK2 _ (by omega) (by omega) (by omega) (by omega)).trans c3⟩, ⟨p, (hK2 _ (by omega) (by omega) (by omega) (by omega)).trans c4⟩⟩
    exact r2.set (by omega) (fun fs e => by cases e)
  refine e_vret dX2_copyFrom_41 rfl (hp _ ⟨⟨getself a3, ?_, ?_, ?_, ?_⟩, hR3, ?_, ?_⟩)
  · exact l1.1.same (fun x hx => hK x (by omega) (by omega) (by omega) (by omega) (by omega))
  · exact l2.same (hK _ (by omega) (by omega) (by omega) (by omega) (by omega))
  · refine ⟨g3, u1, ?_, fun i hi => (m2 i hi).trans (t4 i hi)⟩
    rw [hI.2.1.1]
    exact m5.same (List.getElem?_set_ne (by omega)) (List.getElem?_set_ne (by omega))
  · refine ⟨g4, u2, ?_, fun i hi => (n2 i hi).trans (t5 i hi)⟩
    rw [hI.2.2.1.1]
    exact n1.same (List.getElem?_set_ne (by omega)) (List.getElem?_set_ne (by omega))
  · show (h3.set a _).length = _
    rw [List.length_set, n3, m3, l3]
  · intro x hx
    exact (hK x (by omega) (by omega) (by omega) (by omega) (by omega)).trans (l4 x (by omega))
