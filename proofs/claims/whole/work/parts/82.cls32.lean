theorem PE.same {h h' : AH} {a : Nat} {Y : Nat → Int32} (hP : PE h a Y) (e : h'[a + 2]? = h[a + 2]?) : PE h' a Y := by
  obtain ⟨f, r, x⟩ := hP
  exact ⟨f, e.trans r, x⟩
theorem c_take (D : En) {h : AH} {s : SS} (hC : ClsS h s) {M : Nat → Int32} (hA : LB h 46 M) : Sp D 1 mX4_takePeopleOf [.ref 58, .ref 46] h 0 0 none (fun h' => ClsS h' s ∧ FrC h h' ∧ LB h' 46 M ∧ PE h' 58 M) := by
  refine (k_take D hC.p55 hC.a44 hA.1.pe2).weak (fun h' q => ?_)
  obtain ⟨g, q1, q2, q3, q4⟩ := q
  have hB : RB h' := by rw [q1]; exact hC.rb.set (by decide) (fun fs e => by cases e)
  exact ⟨hC.path q4.z hB q3, q4.z.frc hC.rb (by decide) (by decide), q4.z.lb (by decide) hB hA (by decide), q2⟩
theorem eqR_comm {A B : Nat → Int32} (n : Nat) : eqR A B n = eqR B A n := by
  rw [Bool.eq_iff_iff, eqR_iff, eqR_iff]
  exact ⟨fun h i hi => (h i hi).symm, fun h i hi => (h i hi).symm⟩
theorem rsP_iff {N : Nat → Int32} {k : Nat} (hE : E3 (yrX N N (k + 1)) N) : rsP N k = eqR (yrX N N (k + 1)) (yrX N N k) (4 * nvN (yrX N N (k + 1))) := by
  rw [hE.1, eqR_comm]
  rfl
theorem yr_pl {N : Nat → Int32} (hI : IN N) (k : Nat) {v : Nat} (hv : v < 8) : yrX N N (k + 1) (16 + 4 * v) = yrX N N k (16 + 4 * v) := by
  rw [yrX_YK (M := N) hI (k + 1) _ (by unfold YU; omega), yrX_YK (M := N) hI k _ (by unfold YU; omega)]
set_option maxRecDepth 20000 in
theorem cl_rest (D : En) {s : SS} (hI : INV s) {h00 : AH} {post : Option Value → AH → Prop} (n : Int32) (hn_n : n = nI (tn n)) (hl_n : tn n ≤ 40) (hp : ∀ h', (ClsS h' ((if fsP (rsP (sN s)) (tn n) 0 < tn n then (nI (fsP (rsP (sN s)) (tn n) 0 + 1), s) else er 2 s)).2 ∧ FrC h00 h') → post (some (.int ((if fsP (rsP (sN s)) (tn n) 0 < tn n then (nI (fsP (rsP (sN s)) (tn n) 0 + 1), s) else er 2 s)).1)) h') : ∀ (j : Nat) (k : Nat) (h : AH), (k + j = tn n) → (ClsS h s) → (FrC h00 h) → (LB h 46 (yrX (sN s) (sN s) k)) → (IN (yrX (sN s) (sN s) k)) → (E3 (yrX (sN s) (sN s) k) (sN s)) → (PE h 58 (yrX (sN s) (sN s) k)) → (∀ i, i < k → ¬ rsP (sN s) i = true) → Ev D 7 mX11_rest 46 [some (.ref (11)), some (.int (n)), some (.int (nI (k + 1)))] [] h 0 0 post := by
  have hY := hI.1.1
  have hnv := hY.2.1
  have htc10 := hY.2.2.2.1
  intro j
  induction j with
  | zero =>
    intro k h hm hC hF hA hIA hEA hPE hN
    refine e_iload_n dX11_rest_46 rfl ?_
    refine e_iload_n dX11_rest_47 rfl ?_
    refine e_top (nI (tn n)) (hn_n) ?_
    refine e_icmp_gtN 91 dX11_rest_48 (by decide) (by omega) (by omega) (fun hcq48 => ?_) (fun hcq48 => absurd hcq48 (by omega))
    refine e_aload_n dX11_rest_91 rfl ?_
    refine e_iconst (nI (2)) dX11_rest_92 (by decide) ?_
    refine c_V1i (nc := 0) (ns := 0) (mc := 0) (ms := 0) (N := mX11_error) dX11_rest_93 lv_X11_54 mo_X11_error hC.cn (Nat.le_of_ble_eq_true rfl) (Nat.le_of_ble_eq_true rfl) (by decide) (c_error D hC 2 (by decide)) (fun h hP => ?_)
    obtain ⟨hC, hF1⟩ := hP
    have hF := hF.trans hF1
    have e8 : (if fsP (rsP (sN s)) (tn n) 0 < tn n then (nI (fsP (rsP (sN s)) (tn n) 0 + 1), s) else er 2 s) = er 2 s := by rw [fsP_miss (tn n) 0 (fun i a b => hN i (by omega)), Nat.zero_add, if_neg (Nat.lt_irrefl _)]
    rw [e8] at hp
    exact e_iret dX11_rest_96 rfl (hp _ ⟨hC, hF⟩)
  | succ j ih =>
    intro k h hm hC hF hA hIA hEA hPE hN
    refine e_iload_n dX11_rest_46 rfl ?_
    refine e_iload_n dX11_rest_47 rfl ?_
    refine e_top (nI (tn n)) (hn_n) ?_
    refine e_icmp_gtN 91 dX11_rest_48 (by decide) (by omega) (by omega) (fun hcq48 => absurd hcq48 (by omega)) (fun hcq48 => ?_)
    refine e_aload_n dX11_rest_51 rfl ?_
    refine e_get dX11_rest_52 fl_X11_26_11 hC.1 rfl ?_
    have hC0 := hC
    refine c_V0v (nc := 0) (ns := 0) (mc := 0) (ms := 0) (N := mX4_passYear) dX11_rest_55 lv_X11_248 mo_X4_passYear hA.1.cn (Nat.le_of_ble_eq_true rfl) (Nat.le_of_ble_eq_true rfl) (by decide) (c_yA D hC hA hIA hEA) (fun h hP => ?_)
    obtain ⟨hC, hF1, hA, hIA, hEA, hTA, hZ9⟩ := hP
    have hF := hF.trans hF1
    have hPE := hPE.same (hZ9.lo hC0.rb (by decide) (by decide))
    refine e_aload_n dX11_rest_58 rfl ?_
    refine e_get dX11_rest_59 fl_X11_26_11 hC.1 rfl ?_
    refine e_aload_n dX11_rest_62 rfl ?_
    refine e_get dX11_rest_63 fl_X11_30_11 hC.1 rfl ?_
    refine c_V1iR (N := mX4_hasPeopleOf) dX11_rest_66 lv_X11_251 mo_X4_hasPeopleOf hA.1.cn (Nat.le_of_ble_eq_true rfl) (Nat.le_of_ble_eq_true rfl) (by decide) (k_has D hA.1 hIA hC.p55 hPE (fun v hv => yr_pl hI.1 _ (by rw [hEA.1] at hv; omega))) ?_
    refine e_if_eqB 74 dX11_rest_69 (by decide) (fun hcq69 => ?_) (fun hcq69 => ?_)
    · refine e_aload_n dX11_rest_74 rfl ?_
      refine e_get dX11_rest_75 fl_X11_30_11 hC.1 rfl ?_
      refine e_aload_n dX11_rest_78 rfl ?_
      refine e_get dX11_rest_79 fl_X11_26_11 hC.1 rfl ?_
      refine c_V1v (nc := 0) (ns := 0) (mc := 0) (ms := 0) (N := mX4_takePeopleOf) dX11_rest_82 lv_X11_255 mo_X4_takePeopleOf (Shp.cn hC.p55) (Nat.le_of_ble_eq_true rfl) (Nat.le_of_ble_eq_true rfl) (by decide) (c_take D hC hA) (fun h hP => ?_)
      obtain ⟨hC, hF1, hA, hPE⟩ := hP
      have hF := hF.trans hF1
      refine e_iincN (k + 1 + 1) dX11_rest_85 rfl (by decide) (nI_add _ _) ?_
      refine e_goto 46 dX11_rest_88 (by decide) ?_
      exact ih (k + 1) _ (by omega) hC hF hA hIA hEA hPE (fun i hi q => (Nat.lt_or_ge i k).elim (fun w => hN i w q) (fun w => hcq69 (by rw [show i = k by omega, rsP_iff hEA] at q; exact q)))
    · refine e_iload_n dX11_rest_72 rfl ?_
      have e8 : (if fsP (rsP (sN s)) (tn n) 0 < tn n then (nI (fsP (rsP (sN s)) (tn n) 0 + 1), s) else er 2 s) = (nI (k + 1), s) := by rw [fsP_hit (P := rsP (sN s)) (tn n) 0 k (by omega) (by omega) (fun i a b => hN i b) (by rw [rsP_iff hEA]; exact hcq69), if_pos (by omega)]
      rw [e8] at hp
      exact e_iret dX11_rest_73 rfl (hp _ ⟨hC, hF⟩)
set_option maxRecDepth 20000 in
theorem cp_rest (D : En) {h : AH} {s : SS} (hI : INV s) (hC : ClsS h s) (n : Int32) : Sp D 7 mX11_rest [.ref (11), .int (n)] h 0 0 (some (.int (f_rest s n).1)) (fun h' => ClsS h' (f_rest s n).2 ∧ FrC h h') := by
  have hY := hI.1.1
  have hnv := hY.2.1
  have htc10 := hY.2.2.2.1
  obtain ⟨h00, hh00⟩ : ∃ z, z = h := ⟨_, rfl⟩
  have hF : FrC h00 h := by rw [hh00]; exact FrC.rf
  intro post hp
  rw [← hh00] at hp
  show Ev D 7 mX11_rest 0 [some (.ref (11)), some (.int (n)), none] [] h 0 0 post
  refine e_iload_n dX11_rest_0 rfl ?_
  refine e_iconst (nI (1)) dX11_rest_1 (by decide) ?_
  refine e_bipush (nI (40)) dX11_rest_2 (by decide) ?_
  refine c_S3iR (N := mX11_within) dX11_rest_4 ls_X11_72 mo_X11_within  (Nat.le_of_ble_eq_true rfl) (Nat.le_of_ble_eq_true rfl) (by decide) (c_within D ((n)) (nI (1)) (nI (40))) ?_
  refine e_if_neB 16 dX11_rest_7 (by decide) (fun hcq7 => ?_) (fun hcq7 => ?_)
  · obtain ⟨hn_n, hg_n, hl_n⟩ := wiN hcq7 (by decide) (by decide)
    refine e_aload_n dX11_rest_16 rfl ?_
    refine e_get dX11_rest_17 fl_X11_26_11 hC.1 rfl ?_
    refine e_aload_n dX11_rest_20 rfl ?_
    refine e_get dX11_rest_21 fl_X11_10_11 hC.1 rfl ?_
    refine e_get dX11_rest_24 fl_X11_58_2 hC.2.1.1 rfl ?_
    refine c_V1v (nc := 0) (ns := 0) (mc := 0) (ms := 0) (N := mX4_copyFrom) dX11_rest_27 lv_X11_232 mo_X4_copyFrom (Shp.cn hC.a44) (Nat.le_of_ble_eq_true rfl) (Nat.le_of_ble_eq_true rfl) (by decide) (c_cpA D hC hI.1) (fun h hP => ?_)
    obtain ⟨hC, hF1, hA, hTA, hZ9⟩ := hP
    have hF := hF.trans hF1
    have hIA := hI.1
    have hEA : E3 (sN s) (sN s) := ⟨rfl, rfl, rfl⟩
    have hA0 := hA
    have hC0 := hC
    refine e_aload_n dX11_rest_30 rfl ?_
    refine e_get dX11_rest_31 fl_X11_30_11 hC.1 rfl ?_
    refine e_aload_n dX11_rest_34 rfl ?_
    refine e_get dX11_rest_35 fl_X11_10_11 hC.1 rfl ?_
    refine e_get dX11_rest_38 fl_X11_58_2 hC.2.1.1 rfl ?_
    refine c_V1v (nc := 0) (ns := 0) (mc := 0) (ms := 0) (N := mX4_copyFrom) dX11_rest_41 lv_X11_232 mo_X4_copyFrom (Shp.cn hC.p55) (Nat.le_of_ble_eq_true rfl) (Nat.le_of_ble_eq_true rfl) (by decide) (c_cpP D hC hI.1) (fun h hP => ?_)
    obtain ⟨hC, hF1, hP, hTP, hZ9⟩ := hP
    have hF := hF.trans hF1
    have hIP := hI.1
    have hEP : E3 (sN s) (sN s) := ⟨rfl, rfl, rfl⟩
    refine e_iconst (nI (1)) dX11_rest_44 (by decide) ?_
    refine e_istore_n dX11_rest_45 (by decide) ?_
    have hA := hZ9.lb (by decide) hC.rb hA0 (by decide)
    have e9 : f_rest s n = (if fsP (rsP (sN s)) (tn n) 0 < tn n then (nI (fsP (rsP (sN s)) (tn n) 0 + 1), s) else er 2 s) := by rw [f_rest, if_pos hcq7]
    rw [e9] at hp
    exact cl_rest D hI n hn_n (by omega) hp (tn n) 0 _ (by omega) hC hF hA hIA hEA hP.1.pe2 (fun i hi => by omega)
  · refine e_aload_n dX11_rest_10 rfl ?_
    refine e_iconst (nI (1)) dX11_rest_11 (by decide) ?_
    refine c_V1i (nc := 0) (ns := 0) (mc := 0) (ms := 0) (N := mX11_error) dX11_rest_12 lv_X11_54 mo_X11_error hC.cn (Nat.le_of_ble_eq_true rfl) (Nat.le_of_ble_eq_true rfl) (by decide) (c_error D hC 1 (by decide)) (fun h hP => ?_)
    obtain ⟨hC, hF1⟩ := hP
    have hF := hF.trans hF1
    have e9 : f_rest s n = er 1 (s) := by rw [f_rest, if_neg hcq7]
    rw [e9] at hp
    exact e_iret dX11_rest_15 rfl (hp _ ⟨hC, hF⟩)
/-- alike but for which things are open -/
def OPN (N N' : Nat → Int32) : Prop := ∀ j, ¬ (112 ≤ j ∧ j < 182 ∧ (j - 112) % 7 = 5) → N' j = N j
theorem OPN.ag {N N' : Nat → Int32} (h : OPN N N') : AG N N' := fun j hj => h j (by unfold ST at hj; omega)
theorem OPN.e3 {N N' : Nat → Int32} (h : OPN N N') : E3 N' N := ⟨h.ag.nv, h.ag.tc, h.ag.tx⟩
theorem OPN.up {N N' : Nat → Int32} (h : OPN N N') {t : Nat} {x : Int32} (ht : t < 10) : OPN N (upd N' (112 + 7 * t + 5) x) := fun j hj => (show upd N' (112 + 7 * t + 5) x j = N' j from pk_un (by omega)).trans (h j hj)
theorem LB.opn {h : AH} {a : Nat} {N N' : Nat → Int32} {x : Int32} (hL : LB h a N) (hI : IN N) (hO : OPN N N') (hx : x = opB N') : LB (h.set a (.inr (4, (lnF a N).set 4 (.int x)))) a N' := by
  have ha := hL.2.2
  refine hL.set (by omega) (fun fs e => by cases e) (hL.1.f0 hI ha hO.ag (fun v hv w hw => hO _ (by omega)) (fun t ht => hO _ (by omega)) (fun k hk => hO _ (by omega)) ?_)
  rw [hx]
  unfold lnF
  rw [hO 0 (by omega), hO 6 (by omega), hO 1 (by omega), hO 2 (by omega)]
  rfl
set_option maxRecDepth 20000 in
theorem c_lwO (D : En) {h : AH} {s : SS} (hI : INV s) (hC : ClsS h s) {N' : Nat → Int32} (x : Int32) (n : Nat) (hn : n ≤ 40) (hO : OPN (sN s) N') (hx : x = opB N') (hI2 : IN N') : Sp D 8 mX11_leftWithOpen [.ref (11), .int (x), .int (nI (n))] h 0 0 (some (.int (aheadV (sN s) N' n))) (fun h' => ClsS h' s ∧ FrC h h') := by
  have hY := hI.1.1
  have hnv := hY.2.1
  have htc10 := hY.2.2.2.1
  obtain ⟨h00, hh00⟩ : ∃ z, z = h := ⟨_, rfl⟩
  have hF : FrC h00 h := by rw [hh00]; exact FrC.rf
  intro post hp
  rw [← hh00] at hp
  show Ev D 8 mX11_leftWithOpen 0 [some (.ref (11)), some (.int (x)), some (.int (nI (n)))] [] h 0 0 post
  refine e_aload_n dX11_leftWithOpen_0 rfl ?_
  refine e_get dX11_leftWithOpen_1 fl_X11_26_11 hC.1 rfl ?_
  refine e_aload_n dX11_leftWithOpen_4 rfl ?_
  refine e_get dX11_leftWithOpen_5 fl_X11_10_11 hC.1 rfl ?_
  refine e_get dX11_leftWithOpen_8 fl_X11_58_2 hC.2.1.1 rfl ?_
  refine c_V1v (nc := 0) (ns := 0) (mc := 0) (ms := 0) (N := mX4_copyFrom) dX11_leftWithOpen_11 lv_X11_232 mo_X4_copyFrom (Shp.cn hC.a44) (Nat.le_of_ble_eq_true rfl) (Nat.le_of_ble_eq_true rfl) (by decide) (c_cpA D hC hI.1) (fun h hP => ?_)
  obtain ⟨hC, hF1, hA, hTA, hZ9⟩ := hP
  have hF := hF.trans hF1
  have hIA := hI.1
  have hEA : E3 (sN s) (sN s) := ⟨rfl, rfl, rfl⟩
  refine e_aload_n dX11_leftWithOpen_14 rfl ?_
  refine e_get dX11_leftWithOpen_15 fl_X11_26_11 hC.1 rfl ?_
  refine e_iload_n dX11_leftWithOpen_18 rfl ?_
  refine e_put dX11_leftWithOpen_19 fl_X11_239_4 ft_4 (fun q hq => Or.inl (by cases hq; rfl)) hA.1.1 (by show _ < 16; decide) rfl rfl ?_
  have hF := hF.set (c := .inr (4, (lnF 46 (sN s)).set 4 (.int x))) (show 11 ≤ 46 by decide) (show 46 < 82 by decide)
  have hA := hA.opn hIA hO hx
  have hC := hC.ahead (FZ.st (by decide)) hA.2.1 hA.1.shp
  have hIA := hI2
  have hEA : E3 N' (sN s) := hO.e3
  refine e_aload_n dX11_leftWithOpen_22 rfl ?_
  refine e_get dX11_leftWithOpen_23 fl_X11_26_11 hC.1 rfl ?_
  refine e_iload_n dX11_leftWithOpen_26 rfl ?_
  refine c_V1v (nc := 0) (ns := 0) (mc := 0) (ms := 0) (N := mX4_passYears) dX11_leftWithOpen_27 lv_X11_226 mo_X4_passYears hA.1.cn (Nat.le_of_ble_eq_true rfl) (Nat.le_of_ble_eq_true rfl) (by decide) (c_ysA D hC hA hIA hEA (n) (by omega)) (fun h hP => ?_)
  obtain ⟨hC, hF1, hA, hIA, hEA, hZ9⟩ := hP
  have hF := hF.trans hF1
  refine e_aload_n dX11_leftWithOpen_30 rfl ?_
  refine e_get dX11_leftWithOpen_31 fl_X11_26_11 hC.1 rfl ?_
  refine c_V0iR (N := mX4_allPeople) dX11_leftWithOpen_34 lv_X11_236 mo_X4_allPeople hA.1.cn (Nat.le_of_ble_eq_true rfl) (Nat.le_of_ble_eq_true rfl) (by decide) (k_allPeople D hA.1 hIA ) ?_
  refine e_top ((aheadV (sN s) N' n)) (by show ppN _ (nvN (yrX (sN s) N' n)) = _; rw [hEA.1]; rfl) ?_
  exact e_iret dX11_leftWithOpen_37 rfl (hp _ ⟨hC, hF⟩)
theorem OPN.rf {N : Nat → Int32} : OPN N N := fun _ _ => rfl
theorem IN_op {N : Nat → Int32} (hI : IN N) {t : Nat} (ht : t < 10) {x : Int32} (hx : rg x 1) : IN (upd N (112 + 7 * t + 5) x) := IN_up hI (by unfold FI; omega) (by omega) (PW_op hI.2.2.2.1 ht hx)
theorem IN_prm {N : Nat → Int32} (hI : IN N) {t : Nat} (ht : t < 10) {x : Int32} : IN (upd N (112 + 7 * t + 6) x) := IN_up hI (by unfold FI; omega) (by omega) (PW_free hI.2.2.2.1 (fun v hv w hw => by omega) (by omega) (fun t ht => by omega) (by omega) (by omega))
theorem E3.up {M N : Nat → Int32} (h : E3 M N) {k : Nat} {x : Int32} (hk : k ≠ 1 ∧ k ≠ 2 ∧ k < 252) : E3 (upd M k x) N := by
  refine ⟨?_, ?_, ?_⟩
  · unfold nvN; rw [show upd M k x 1 = M 1 from pk_un (by omega)]; exact h.1
  · unfold tcN; rw [show upd M k x 2 = M 2 from pk_un (by omega)]; exact h.2.1
  · rw [txN_upd x (by omega)]; exact h.2.2
theorem E3.rf {N : Nat → Int32} : E3 N N := ⟨rfl, rfl, rfl⟩
set_option maxRecDepth 20000 in
theorem cp_worth (D : En) {h : AH} {s : SS} (hI : INV s) (hC : ClsS h s) (t : Int32) (n : Int32) : Sp D 9 mX11_worth [.ref (11), .int (t), .int (n)] h 0 0 (some (.int (f_worth s t n).1)) (fun h' => ClsS h' (f_worth s t n).2 ∧ FrC h h') := by
  have hY := hI.1.1
  have hnv := hY.2.1
  have htc10 := hY.2.2.2.1
  obtain ⟨h00, hh00⟩ : ∃ z, z = h := ⟨_, rfl⟩
  have hF : FrC h00 h := by rw [hh00]; exact FrC.rf
  intro post hp
  rw [← hh00] at hp
  show Ev D 9 mX11_worth 0 [some (.ref (11)), some (.int (t)), some (.int (n)), none] [] h 0 0 post
  refine e_aload_n dX11_worth_0 rfl ?_
  refine e_iload_n dX11_worth_1 rfl ?_
  refine c_V1iR (N := mX11_isThing) dX11_worth_2 lv_X11_131 mo_X11_isThing hC.cn (Nat.le_of_ble_eq_true rfl) (Nat.le_of_ble_eq_true rfl) (by decide) (c_isT D hC ((t))) ?_
  refine e_if_eqB 15 dX11_worth_5 (by decide) (fun hcq5 => ?_) (fun hcq5 => ?_)
  · refine e_aload_n dX11_worth_15 rfl ?_
    refine e_iconst (nI (1)) dX11_worth_16 (by decide) ?_
    refine c_V1i (nc := 0) (ns := 0) (mc := 0) (ms := 0) (N := mX11_error) dX11_worth_17 lv_X11_54 mo_X11_error hC.cn (Nat.le_of_ble_eq_true rfl) (Nat.le_of_ble_eq_true rfl) (by decide) (c_error D hC 1 (by decide)) (fun h hP => ?_)
    obtain ⟨hC, hF1⟩ := hP
    have hF := hF.trans hF1
    have e9 : f_worth s t n = er 1 (s) := by rw [f_worth, if_neg hcq5]
    rw [e9] at hp
    exact e_iret dX11_worth_20 rfl (hp _ ⟨hC, hF⟩)
  · obtain ⟨hn_t, hl_t⟩ := isN hcq5 hY.2.2.1 (by omega)
    refine e_iload_n dX11_worth_8 rfl ?_
    refine c_S1iR (N := mX11_isAhead) dX11_worth_9 ls_X11_229 mo_X11_isAhead  (Nat.le_of_ble_eq_true rfl) (Nat.le_of_ble_eq_true rfl) (by decide) (c_isA D ((n))) ?_
    refine e_if_neB 21 dX11_worth_12 (by decide) (fun hcq12 => ?_) (fun hcq12 => ?_)
    · obtain ⟨hn_n, hg_n, hl_n⟩ := wiN hcq12 (by decide) (by decide)
      refine e_aload_n dX11_worth_21 rfl ?_
      refine e_get dX11_worth_22 fl_X11_10_11 hC.1 rfl ?_
      refine e_get dX11_worth_25 fl_X11_58_2 hC.2.1.1 rfl ?_
      refine e_get dX11_worth_28 fl_X11_239_4 hC.2.1.2.1.1 rfl ?_
      refine e_istore_n dX11_worth_31 (by decide) ?_
      refine e_aload_n dX11_worth_32 rfl ?_
      refine e_iload_n dX11_worth_33 rfl ?_
      refine e_iconst (nI (1)) dX11_worth_34 (by decide) ?_
      refine e_iload_n dX11_worth_35 rfl ?_
      refine e_top (nI (tn t)) (hn_t) ?_
      refine e_ishl dX11_worth_36 ?_
      refine e_ior dX11_worth_37 ?_
      refine e_iload_n dX11_worth_38 rfl ?_
      refine e_top (nI (tn n)) (hn_n) ?_
      refine c_V2i (nc := 0) (ns := 0) (mc := 0) (ms := 0) (N := mX11_leftWithOpen) dX11_worth_39 lv_X11_264 mo_X11_leftWithOpen hC.cn (Nat.le_of_ble_eq_true rfl) (Nat.le_of_ble_eq_true rfl) (by decide) (c_lwO D hI hC (N' := upd (sN s) (112 + 7 * tn t + 5) (nI 1)) (((opB (sN s)) ||| (nI (1) <<< (nI (tn t) &&& 31)))) (tn n) (by omega) (OPN.rf.up (by omega)) (opB_set htc10 (by omega)).1.symm (IN_op hI.1 (by omega) (rg_nI (by decide) (by decide)))) (fun h hP => ?_)
      obtain ⟨hC, hF1⟩ := hP
      have hF := hF.trans hF1
      refine e_aload_n dX11_worth_42 rfl ?_
      refine e_iload_n dX11_worth_43 rfl ?_
      refine e_iconst (nI (1)) dX11_worth_44 (by decide) ?_
      refine e_iload_n dX11_worth_45 rfl ?_
      refine e_top (nI (tn t)) (hn_t) ?_
      refine e_ishl dX11_worth_46 ?_
      refine e_iconst (((-1))) dX11_worth_47 (by decide) ?_
      refine e_ixor dX11_worth_48 ?_
      refine e_iand dX11_worth_49 ?_
      refine e_iload_n dX11_worth_50 rfl ?_
      refine e_top (nI (tn n)) (hn_n) ?_
      refine c_V2i (nc := 0) (ns := 0) (mc := 0) (ms := 0) (N := mX11_leftWithOpen) dX11_worth_51 lv_X11_264 mo_X11_leftWithOpen hC.cn (Nat.le_of_ble_eq_true rfl) (Nat.le_of_ble_eq_true rfl) (by decide) (c_lwO D hI hC (N' := upd (sN s) (112 + 7 * tn t + 5) (nI 0)) (((opB (sN s)) &&& ((nI (1) <<< (nI (tn t) &&& 31)) ^^^ ((-1))))) (tn n) (by omega) (OPN.rf.up (by omega)) (opB_set htc10 (by omega)).2.symm (IN_op hI.1 (by omega) (rg_nI (by decide) (by decide)))) (fun h hP => ?_)
      obtain ⟨hC, hF1⟩ := hP
      have hF := hF.trans hF1
      refine e_isub dX11_worth_54 ?_
      have e9 : f_worth s t n = (((aheadV (sN s) (upd (sN s) (112 + 7 * tn t + 5) (nI 1)) (tn n)) - (aheadV (sN s) (upd (sN s) (112 + 7 * tn t + 5) (nI 0)) (tn n))), s) := by rw [f_worth, if_pos hcq5, if_pos hcq12]
      rw [e9] at hp
      exact e_iret dX11_worth_55 rfl (hp _ ⟨hC, hF⟩)
    · refine e_aload_n dX11_worth_15 rfl ?_
      refine e_iconst (nI (1)) dX11_worth_16 (by decide) ?_
      refine c_V1i (nc := 0) (ns := 0) (mc := 0) (ms := 0) (N := mX11_error) dX11_worth_17 lv_X11_54 mo_X11_error hC.cn (Nat.le_of_ble_eq_true rfl) (Nat.le_of_ble_eq_true rfl) (by decide) (c_error D hC 1 (by decide)) (fun h hP => ?_)
      obtain ⟨hC, hF1⟩ := hP
      have hF := hF.trans hF1
      have e9 : f_worth s t n = er 1 (s) := by rw [f_worth, if_pos hcq5, if_neg hcq12]
      rw [e9] at hp
      exact e_iret dX11_worth_20 rfl (hp _ ⟨hC, hF⟩)
set_option maxRecDepth 20000 in
theorem c_lwP (D : En) {h : AH} {s : SS} (hI : INV s) (hC : ClsS h s) (t : Nat) (ht : t < tcN (sN s)) (y : Int32) (n : Nat) (hn : n ≤ 40) : Sp D 8 mX11_leftWithPromise [.ref (11), .int (nI (t)), .int (y), .int (nI (n))] h 0 0 (some (.int (aheadV (sN s) (upd (sN s) (112 + 7 * t + 6) y) n))) (fun h' => ClsS h' s ∧ FrC h h') := by
  have hY := hI.1.1
  have hnv := hY.2.1
  have htc10 := hY.2.2.2.1
  obtain ⟨h00, hh00⟩ : ∃ z, z = h := ⟨_, rfl⟩
  have hF : FrC h00 h := by rw [hh00]; exact FrC.rf
  intro post hp
  rw [← hh00] at hp
  show Ev D 8 mX11_leftWithPromise 0 [some (.ref (11)), some (.int (nI (t))), some (.int (y)), some (.int (nI (n)))] [] h 0 0 post
  refine e_aload_n dX11_leftWithPromise_0 rfl ?_
  refine e_get dX11_leftWithPromise_1 fl_X11_26_11 hC.1 rfl ?_
  refine e_aload_n dX11_leftWithPromise_4 rfl ?_
  refine e_get dX11_leftWithPromise_5 fl_X11_10_11 hC.1 rfl ?_
  refine e_get dX11_leftWithPromise_8 fl_X11_58_2 hC.2.1.1 rfl ?_
  refine c_V1v (nc := 0) (ns := 0) (mc := 0) (ms := 0) (N := mX4_copyFrom) dX11_leftWithPromise_11 lv_X11_232 mo_X4_copyFrom (Shp.cn hC.a44) (Nat.le_of_ble_eq_true rfl) (Nat.le_of_ble_eq_true rfl) (by decide) (c_cpA D hC hI.1) (fun h hP => ?_)
  obtain ⟨hC, hF1, hA, hTA, hZ9⟩ := hP
  have hF := hF.trans hF1
  have hIA := hI.1
  have hEA : E3 (sN s) (sN s) := ⟨rfl, rfl, rfl⟩
  refine e_aload_n dX11_leftWithPromise_14 rfl ?_
  refine e_get dX11_leftWithPromise_15 fl_X11_26_11 hC.1 rfl ?_
  obtain ⟨f5A, hr5A, he5A⟩ := hA.1.2.2.2.2.2.1
  refine e_get dX11_leftWithPromise_18 fl_X11_158_4 hA.1.1 rfl ?_
  refine e_iload_n dX11_leftWithPromise_21 rfl ?_
  refine e_iload_n dX11_leftWithPromise_22 rfl ?_
  refine e_ist t dX11_leftWithPromise_23 hr5A rfl (by omega) (by decide) ?_
  have hF := hF.set (c := .inl (0, 10, .inl (upd f5A t y))) (show 11 ≤ 46 + 5 by decide) (show 46 + 5 < 82 by decide)
  have hA := hA.set (by decide) (fun fs e => by cases e) (hA.1.pr hIA (by decide) hr5A (t := t) (by omega) y)
  have hC := hC.ahead (FZ.st (by decide)) hA.2.1 hA.1.shp
  have hIA := IN_prm hIA (x := y) (show t < 10 by omega)
  have hEA := hEA.up (k := 112 + 7 * t + 6) (x := y) (by omega)
  refine e_aload_n dX11_leftWithPromise_24 rfl ?_
  refine e_get dX11_leftWithPromise_25 fl_X11_26_11 hC.1 rfl ?_
  refine e_iload_n dX11_leftWithPromise_28 rfl ?_
  refine c_V1v (nc := 0) (ns := 0) (mc := 0) (ms := 0) (N := mX4_passYears) dX11_leftWithPromise_29 lv_X11_226 mo_X4_passYears hA.1.cn (Nat.le_of_ble_eq_true rfl) (Nat.le_of_ble_eq_true rfl) (by decide) (c_ysA D hC hA hIA hEA (n) (by omega)) (fun h hP => ?_)
  obtain ⟨hC, hF1, hA, hIA, hEA, hZ9⟩ := hP
  have hF := hF.trans hF1
  refine e_aload_n dX11_leftWithPromise_32 rfl ?_
  refine e_get dX11_leftWithPromise_33 fl_X11_26_11 hC.1 rfl ?_
  refine c_V0iR (N := mX4_allPeople) dX11_leftWithPromise_36 lv_X11_236 mo_X4_allPeople hA.1.cn (Nat.le_of_ble_eq_true rfl) (Nat.le_of_ble_eq_true rfl) (by decide) (k_allPeople D hA.1 hIA ) ?_
  refine e_top ((aheadV (sN s) (upd (sN s) (112 + 7 * t + 6) y) n)) (by rw [hEA.1]; rfl) ?_
  exact e_iret dX11_leftWithPromise_39 rfl (hp _ ⟨hC, hF⟩)
set_option maxRecDepth 20000 in
theorem cp_promised (D : En) {h : AH} {s : SS} (hI : INV s) (hC : ClsS h s) (t : Int32) (y : Int32) (n : Int32) : Sp D 9 mX11_promised [.ref (11), .int (t), .int (y), .int (n)] h 0 0 (some (.int (f_promised s t y n).1)) (fun h' => ClsS h' (f_promised s t y n).2 ∧ FrC h h') := by
  have hY := hI.1.1
  have hnv := hY.2.1
  have htc10 := hY.2.2.2.1
  obtain ⟨h00, hh00⟩ : ∃ z, z = h := ⟨_, rfl⟩
  have hF : FrC h00 h := by rw [hh00]; exact FrC.rf
  intro post hp
  rw [← hh00] at hp
  show Ev D 9 mX11_promised 0 [some (.ref (11)), some (.int (t)), some (.int (y)), some (.int (n))] [] h 0 0 post
  refine e_aload_n dX11_promised_0 rfl ?_
  refine e_iload_n dX11_promised_1 rfl ?_
  refine c_V1iR (N := mX11_isThing) dX11_promised_2 lv_X11_131 mo_X11_isThing hC.cn (Nat.le_of_ble_eq_true rfl) (Nat.le_of_ble_eq_true rfl) (by decide) (c_isT D hC ((t))) ?_
  refine e_if_eqB 26 dX11_promised_5 (by decide) (fun hcq5 => ?_) (fun hcq5 => ?_)
  · refine e_aload_n dX11_promised_26 rfl ?_
    refine e_iconst (nI (1)) dX11_promised_27 (by decide) ?_
    refine c_V1i (nc := 0) (ns := 0) (mc := 0) (ms := 0) (N := mX11_error) dX11_promised_28 lv_X11_54 mo_X11_error hC.cn (Nat.le_of_ble_eq_true rfl) (Nat.le_of_ble_eq_true rfl) (by decide) (c_error D hC 1 (by decide)) (fun h hP => ?_)
    obtain ⟨hC, hF1⟩ := hP
    have hF := hF.trans hF1
    have e9 : f_promised s t y n = er 1 (s) := by rw [f_promised, if_neg hcq5]
    rw [e9] at hp
    exact e_iret dX11_promised_31 rfl (hp _ ⟨hC, hF⟩)
  · obtain ⟨hn_t, hl_t⟩ := isN hcq5 hY.2.2.1 (by omega)
    refine e_iload_n dX11_promised_8 rfl ?_
    refine e_iconst (nI (0)) dX11_promised_9 (by decide) ?_
    refine e_sipush (nI (199)) dX11_promised_10 (by decide) ?_
    refine c_S3iR (N := mX11_within) dX11_promised_13 ls_X11_72 mo_X11_within  (Nat.le_of_ble_eq_true rfl) (Nat.le_of_ble_eq_true rfl) (by decide) (c_within D ((y)) (nI (0)) (nI (199))) ?_
    refine e_if_eqB 26 dX11_promised_16 (by decide) (fun hcq16 => ?_) (fun hcq16 => ?_)
    · refine e_aload_n dX11_promised_26 rfl ?_
      refine e_iconst (nI (1)) dX11_promised_27 (by decide) ?_
      refine c_V1i (nc := 0) (ns := 0) (mc := 0) (ms := 0) (N := mX11_error) dX11_promised_28 lv_X11_54 mo_X11_error hC.cn (Nat.le_of_ble_eq_true rfl) (Nat.le_of_ble_eq_true rfl) (by decide) (c_error D hC 1 (by decide)) (fun h hP => ?_)
      obtain ⟨hC, hF1⟩ := hP
      have hF := hF.trans hF1
      have e9 : f_promised s t y n = er 1 (s) := by rw [f_promised, if_pos hcq5, if_neg hcq16]
      rw [e9] at hp
      exact e_iret dX11_promised_31 rfl (hp _ ⟨hC, hF⟩)
    · obtain ⟨hn_y, hg_y, hl_y⟩ := wiN hcq16 (by decide) (by decide)
      refine e_iload_n dX11_promised_19 rfl ?_
      refine c_S1iR (N := mX11_isAhead) dX11_promised_20 ls_X11_229 mo_X11_isAhead  (Nat.le_of_ble_eq_true rfl) (Nat.le_of_ble_eq_true rfl) (by decide) (c_isA D ((n))) ?_
      refine e_if_neB 32 dX11_promised_23 (by decide) (fun hcq23 => ?_) (fun hcq23 => ?_)
      · obtain ⟨hn_n, hg_n, hl_n⟩ := wiN hcq23 (by decide) (by decide)
        refine e_aload_n dX11_promised_32 rfl ?_
        refine e_iload_n dX11_promised_33 rfl ?_
        refine e_top (nI (tn t)) (hn_t) ?_
        refine e_iload_n dX11_promised_34 rfl ?_
        refine e_iload_n dX11_promised_35 rfl ?_
        refine e_top (nI (tn n)) (hn_n) ?_
        refine c_V3i (nc := 0) (ns := 0) (mc := 0) (ms := 0) (N := mX11_leftWithPromise) dX11_promised_36 lv_X11_267 mo_X11_leftWithPromise hC.cn (Nat.le_of_ble_eq_true rfl) (Nat.le_of_ble_eq_true rfl) (by decide) (c_lwP D hI hC (tn t) (by omega) ((y)) (tn n) (by omega)) (fun h hP => ?_)
        obtain ⟨hC, hF1⟩ := hP
        have hF := hF.trans hF1
        refine e_aload_n dX11_promised_39 rfl ?_
        refine e_iload_n dX11_promised_40 rfl ?_
        refine e_top (nI (tn t)) (hn_t) ?_
        refine e_iconst (((-1))) dX11_promised_41 (by decide) ?_
        refine e_iload_n dX11_promised_42 rfl ?_
        refine e_top (nI (tn n)) (hn_n) ?_
        refine c_V3i (nc := 0) (ns := 0) (mc := 0) (ms := 0) (N := mX11_leftWithPromise) dX11_promised_43 lv_X11_267 mo_X11_leftWithPromise hC.cn (Nat.le_of_ble_eq_true rfl) (Nat.le_of_ble_eq_true rfl) (by decide) (c_lwP D hI hC (tn t) (by omega) (((-1))) (tn n) (by omega)) (fun h hP => ?_)
        obtain ⟨hC, hF1⟩ := hP
        have hF := hF.trans hF1
        refine e_isub dX11_promised_46 ?_
        have e9 : f_promised s t y n = (((aheadV (sN s) (upd (sN s) (112 + 7 * (tn t) + 6) ((y))) (tn n)) - (aheadV (sN s) (upd (sN s) (112 + 7 * (tn t) + 6) (((-1)))) (tn n))), s) := by rw [f_promised, if_pos hcq5, if_pos hcq16, if_pos hcq23]
        rw [e9] at hp
        exact e_iret dX11_promised_47 rfl (hp _ ⟨hC, hF⟩)
      · refine e_aload_n dX11_promised_26 rfl ?_
        refine e_iconst (nI (1)) dX11_promised_27 (by decide) ?_
        refine c_V1i (nc := 0) (ns := 0) (mc := 0) (ms := 0) (N := mX11_error) dX11_promised_28 lv_X11_54 mo_X11_error hC.cn (Nat.le_of_ble_eq_true rfl) (Nat.le_of_ble_eq_true rfl) (by decide) (c_error D hC 1 (by decide)) (fun h hP => ?_)
        obtain ⟨hC, hF1⟩ := hP
        have hF := hF.trans hF1
        have e9 : f_promised s t y n = er 1 (s) := by rw [f_promised, if_pos hcq5, if_pos hcq16, if_neg hcq23]
        rw [e9] at hp
        exact e_iret dX11_promised_31 rfl (hp _ ⟨hC, hF⟩)
theorem IN_mdR {N : Nat → Int32} (hI : IN N) {a b : Nat} (ha : a < 8) (hb : b < 8) : IN (mdR N a b) := by
  have h1 : YW (mdR N a b) (nvN N) (tcN N) (txN N) := YW_upd (YW_upd hI.1 (by unfold FI; omega)) (by unfold FI; omega)
  have h2 : PW (mdR N a b) := PW_mend hI.2.2.2.1 ha hb (rg_nI (by decide) (by decide))
  have key : ∀ j, (j < 48 ∨ 112 ≤ j) → mdR N a b j = N j := fun j hj => (show upd (upd N (48 + 8 * b + a) (nI 1)) (48 + 8 * a + b) (nI 1) j = upd N (48 + 8 * b + a) (nI 1) j from pk_un (by omega)).trans (pk_un (by omega))
  exact JW.IN ⟨h2, key 1 (by omega), key 2 (by omega), key 3 (by omega), key 4 (by omega), fun j hj => key j (by omega)⟩ hI h1
set_option maxRecDepth 20000 in
theorem c_lwR (D : En) {h : AH} {s : SS} (hI : INV s) (hC : ClsS h s) (a b : Nat) (ha : a < 8) (hb : b < 8) (hab : ¬ a = b) (n : Nat) (hn : n ≤ 40) : Sp D 8 mX11_leftWithRoad [.ref (11), .int (nI (a)), .int (nI (b)), .int (nI (n))] h 0 0 (some (.int (aheadV (sN s) (mdR (sN s) a b) n))) (fun h' => ClsS h' s ∧ FrC h h') := by
  have hY := hI.1.1
  have hnv := hY.2.1
  have htc10 := hY.2.2.2.1
  obtain ⟨h00, hh00⟩ : ∃ z, z = h := ⟨_, rfl⟩
  have hF : FrC h00 h := by rw [hh00]; exact FrC.rf
  intro post hp
  rw [← hh00] at hp
  show Ev D 8 mX11_leftWithRoad 0 [some (.ref (11)), some (.int (nI (a))), some (.int (nI (b))), some (.int (nI (n)))] [] h 0 0 post
  refine e_aload_n dX11_leftWithRoad_0 rfl ?_
  refine e_get dX11_leftWithRoad_1 fl_X11_26_11 hC.1 rfl ?_
  refine e_aload_n dX11_leftWithRoad_4 rfl ?_
  refine e_get dX11_leftWithRoad_5 fl_X11_10_11 hC.1 rfl ?_
  refine e_get dX11_leftWithRoad_8 fl_X11_58_2 hC.2.1.1 rfl ?_
  refine c_V1v (nc := 0) (ns := 0) (mc := 0) (ms := 0) (N := mX4_copyFrom) dX11_leftWithRoad_11 lv_X11_232 mo_X4_copyFrom (Shp.cn hC.a44) (Nat.le_of_ble_eq_true rfl) (Nat.le_of_ble_eq_true rfl) (by decide) (c_cpA D hC hI.1) (fun h hP => ?_)
  obtain ⟨hC, hF1, hA, hTA, hZ9⟩ := hP
  have hF := hF.trans hF1
  have hIA := hI.1
  have hEA : E3 (sN s) (sN s) := ⟨rfl, rfl, rfl⟩
  refine e_aload_n dX11_leftWithRoad_14 rfl ?_
  refine e_get dX11_leftWithRoad_15 fl_X11_26_11 hC.1 rfl ?_
  refine e_iload_n dX11_leftWithRoad_18 rfl ?_
  refine e_iload_n dX11_leftWithRoad_19 rfl ?_
  refine e_iconst (nI (1)) dX11_leftWithRoad_20 (by decide) ?_
  refine c_V3v (nc := 0) (ns := 0) (mc := 0) (ms := 0) (N := mX4_setMended) dX11_leftWithRoad_21 lv_X11_116 mo_X4_setMended hA.1.cn (Nat.le_of_ble_eq_true rfl) (Nat.le_of_ble_eq_true rfl) (by decide) (k_mend1 D hA a b ha hb hab (IN_mdR hIA ha hb)) (fun h hP => ?_)
  obtain ⟨hA, hA2, hT2⟩ := hP
  have hF := hF.trans (hA2.z.frc hC.rb (by decide) (by decide))
  have hC := hC.ahead hA2.z hA.2.1 hA.1.shp
  have hIA := IN_mdR hIA ha hb
  have hEA : E3 (mdR (sN s) a b) (sN s) := (E3.rf.up (by omega)).up (by omega)
  have hA : LB h 46 (mdR (sN s) a b) := hA
  refine e_aload_n dX11_leftWithRoad_24 rfl ?_
  refine e_get dX11_leftWithRoad_25 fl_X11_26_11 hC.1 rfl ?_
  refine e_iload_n dX11_leftWithRoad_28 rfl ?_
  refine c_V1v (nc := 0) (ns := 0) (mc := 0) (ms := 0) (N := mX4_passYears) dX11_leftWithRoad_29 lv_X11_226 mo_X4_passYears hA.1.cn (Nat.le_of_ble_eq_true rfl) (Nat.le_of_ble_eq_true rfl) (by decide) (c_ysA D hC hA hIA hEA (n) (by omega)) (fun h hP => ?_)
  obtain ⟨hC, hF1, hA, hIA, hEA, hZ9⟩ := hP
  have hF := hF.trans hF1
  refine e_aload_n dX11_leftWithRoad_32 rfl ?_
  refine e_get dX11_leftWithRoad_33 fl_X11_26_11 hC.1 rfl ?_
  refine c_V0iR (N := mX4_allPeople) dX11_leftWithRoad_36 lv_X11_236 mo_X4_allPeople hA.1.cn (Nat.le_of_ble_eq_true rfl) (Nat.le_of_ble_eq_true rfl) (by decide) (k_allPeople D hA.1 hIA ) ?_
  refine e_top ((aheadV (sN s) (mdR (sN s) a b) n)) (by rw [hEA.1]; rfl) ?_
  exact e_iret dX11_leftWithRoad_39 rfl (hp _ ⟨hC, hF⟩)
