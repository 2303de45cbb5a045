theorem by_amt : ∀ k, k < 8 → (((nI (8 * k)).toInt64.toUInt64 &&& Int64.toUInt64 63).toBitVec % 64).toNat = 8 * k := by decide
theorem by_amt2 : ∀ k, k < 8 → (((nI (8 * k)).toInt64 &&& 63).toBitVec.smod 64).toNat = 8 * k := by decide
theorem by_m1 : ∀ i, i < 32 → (nI 255).toBitVec.getLsbD i = decide (i < 8) := by decide
theorem by_m2 : ∀ i, i < 32 → (255 : Int64).toBitVec.getLsbD i = decide (i < 8) := by decide
theorem by_eq (w : Int64) (k : Nat) (hk : k < 8) : (((w.toUInt64 >>> ((nI (8 * k)).toInt64.toUInt64 &&& Int64.toUInt64 63)).toInt64).toInt32 &&& nI 255) = byW w k := by
  apply Int32.toBitVec_inj.mp
  apply BitVec.eq_of_getLsbD_eq
  intro i hi
  unfold byW
  rw [Int32.toBitVec_and, BitVec.getLsbD_and, Int64.toBitVec_toInt32, Int64.toBitVec_toInt32, BitVec.signExtend_eq_setWidth_of_le _ (by decide), BitVec.signExtend_eq_setWidth_of_le _ (by decide), BitVec.getLsbD_setWidth, BitVec.getLsbD_setWidth, Int64.toBitVec_and, BitVec.getLsbD_and, by_m1 i hi, by_m2 i hi]
  by_cases h8 : i < 8
  · have s1 : ((w.toUInt64 >>> ((nI (8 * k)).toInt64.toUInt64 &&& Int64.toUInt64 63)).toInt64).toBitVec.getLsbD i = w.toBitVec.getLsbD (8 * k + i) := by
      show (w.toBitVec >>> (((nI (8 * k)).toInt64.toUInt64 &&& Int64.toUInt64 63).toBitVec % 64)).getLsbD i = _
      rw [BitVec.ushiftRight_eq', by_amt k hk, BitVec.getLsbD_ushiftRight]
    have s2 : (w >>> ((nI (8 * k)).toInt64 &&& 63)).toBitVec.getLsbD i = w.toBitVec.getLsbD (8 * k + i) := by
      show (w.toBitVec.sshiftRight' (((nI (8 * k)).toInt64 &&& 63).toBitVec.smod 64)).getLsbD i = _
      rw [BitVec.getLsbD_sshiftRight', by_amt2 k hk, if_pos (by omega), decide_eq_false (by omega)]
      rfl
    rw [s1, s2, decide_eq_true h8, decide_eq_true hi]
    simp
  · rw [decide_eq_false h8]
    simp
theorem fd_tl {N : Nat → Int32} {l : Nat} (h : N 3 = nI l) (hl : l ≤ 50) (w : Int64) (k : Nat) : fdW w N l k 3 = nI (l + k) := by
  cases k with
  | zero => exact h
  | succ k => exact pk_us
theorem ClsS.feed {h h' : AH} {s : SS} {M : Nat → Int32} (hC : ClsS h (wN s M)) (hI : IN M) {x bP : Int32} {fP : Nat → Int32} {l : Nat} (hl : tlN M = l) (hPe : ∀ i, i < l → fP i = M (182 + i)) (hR2 : RW h' 25 50 (upd fP l x) (nI (l + 1)) bP) (hF2 : FO 25 h h') (hw : l < 50) : ClsS h' (wN s (upd (upd M (182 + l) x) 3 (nI (l + 1)))) := by
  have e4 : upd (upd M (182 + l) x) 3 (nI (l + 1)) 3 = nI (l + 1) := pk_us
  have ew : tlN (upd (upd M (182 + l) x) 3 (nI (l + 1))) = l + 1 := by
    show tn (upd (upd M (182 + l) x) 3 (nI (l + 1)) 3) = _
    rw [e4]; exact tn_nI (by omega)
  refine ClsS.tape (s := wN s M) hC hI hF2 ((KL.up (by omega)).tr (KL.up (by omega))) ((pk_un (by omega)).trans (pk_un (by omega))) ((pk_un (by omega)).trans (pk_un (by omega))) (fun i hi => (pk_un (by omega)).trans (pk_un (by omega))) ⟨_, bP, by rw [e4]; exact hR2, fun i hi => ?_⟩
  rw [ew] at hi
  rw [show upd (upd M (182 + l) x) 3 (nI (l + 1)) (182 + i) = upd M (182 + l) x (182 + i) from pk_un (by omega)]
  by_cases e : i = l
  · rw [e]; exact pk_us.trans pk_us.symm
  · exact (pk_un (by omega)).trans ((hPe i (by omega)).trans (pk_un (by omega)).symm)
set_option maxRecDepth 20000 in
theorem cl_feed (D : En) {s : SS} (hI : INV s) {h00 : AH} {post : Option Value → AH → Prop} (w : Int64) (n : Int32) (hn_n : n = nI (tn n)) (hg_n : 1 ≤ tn n) (hl_n : tn n ≤ 8) (h50 : tlN (sN s) + tn n ≤ 50) (hp : ∀ h', (ClsS h' ((nI (tlN (sN s) + tn n), wN s (fdW w (sN s) (tlN (sN s)) (tn n)))).2 ∧ FrC h00 h') → post (some (.int ((nI (tlN (sN s) + tn n), wN s (fdW w (sN s) (tlN (sN s)) (tn n)))).1)) h') : ∀ (j : Nat) (k : Nat) (h : AH), (k + j = tn n) → (ClsS h (wN s (fdW w (sN s) (tlN (sN s)) k))) → (FrC h00 h) → Ev D 1 mX11_feed 42 [some (.ref (11)), some (.long (w)), none, some (.int (n)), some (.int (nI (k)))] [] h 0 0 post := by
  have hY := hI.1.1
  have hnv := hY.2.1
  have htc10 := hY.2.2.2.1
  intro j
  induction j with
  | zero =>
    intro k h hm hC hF
    have hIM : IN (fdW w (sN s) (tlN (sN s)) k) := IN_fd hI.1 w (tlN (sN s)) k (by omega)
    have h39 : fdW w (sN s) (tlN (sN s)) k 3 = nI (tlN (sN s) + k) := fd_tl hI.1.2.1.1 hI.1.2.1.2 w k
    have htl9 : tlN (fdW w (sN s) (tlN (sN s)) k) = tlN (sN s) + k := by show tn (fdW w (sN s) (tlN (sN s)) k 3) = _; rw [h39]; exact tn_nI (by omega)
    obtain ⟨fP, bP, hRP, hPe⟩ := hC.2.1.2.2.2.1
    rw [show sN (wN s (fdW w (sN s) (tlN (sN s)) k)) 3 = nI (tlN (sN s) + k) from h39] at hRP
    rw [show tlN (sN (wN s (fdW w (sN s) (tlN (sN s)) k))) = tlN (sN s) + k from htl9] at hPe
    refine e_iload dX11_feed_42 rfl ?_
    refine e_iload_n dX11_feed_44 rfl ?_
    refine e_top (nI (tn n)) (hn_n) ?_
    refine e_icmp_geN 76 dX11_feed_45 (by decide) (by omega) (by omega) (fun hcq45 => ?_) (fun hcq45 => absurd hcq45 (by omega))
    refine e_aload_n dX11_feed_76 rfl ?_
    refine e_get dX11_feed_77 fl_X11_10_11 hC.1 rfl ?_
    refine e_get dX11_feed_80 fl_X11_187_2 hC.2.1.1 rfl ?_
    refine e_get dX11_feed_83 fl_X11_93_5 hRP.1 rfl ?_
    rw [show k = tn n by omega] at hC
    rw [show k = tn n by omega]
    exact e_iret dX11_feed_86 rfl (hp _ ⟨hC, hF⟩)
  | succ j ih =>
    intro k h hm hC hF
    have hIM : IN (fdW w (sN s) (tlN (sN s)) k) := IN_fd hI.1 w (tlN (sN s)) k (by omega)
    have h39 : fdW w (sN s) (tlN (sN s)) k 3 = nI (tlN (sN s) + k) := fd_tl hI.1.2.1.1 hI.1.2.1.2 w k
    have htl9 : tlN (fdW w (sN s) (tlN (sN s)) k) = tlN (sN s) + k := by show tn (fdW w (sN s) (tlN (sN s)) k 3) = _; rw [h39]; exact tn_nI (by omega)
    obtain ⟨fP, bP, hRP, hPe⟩ := hC.2.1.2.2.2.1
    rw [show sN (wN s (fdW w (sN s) (tlN (sN s)) k)) 3 = nI (tlN (sN s) + k) from h39] at hRP
    rw [show tlN (sN (wN s (fdW w (sN s) (tlN (sN s)) k))) = tlN (sN s) + k from htl9] at hPe
    refine e_iload dX11_feed_42 rfl ?_
    refine e_iload_n dX11_feed_44 rfl ?_
    refine e_top (nI (tn n)) (hn_n) ?_
    refine e_icmp_geN 76 dX11_feed_45 (by decide) (by omega) (by omega) (fun hcq45 => absurd hcq45 (by omega)) (fun hcq45 => ?_)
    refine e_aload_n dX11_feed_48 rfl ?_
    refine e_get dX11_feed_49 fl_X11_10_11 hC.1 rfl ?_
    refine e_get dX11_feed_52 fl_X11_187_2 hC.2.1.1 rfl ?_
    refine e_lload_n dX11_feed_55 rfl ?_
    refine e_bipush (nI (8)) dX11_feed_56 (by decide) ?_
    refine e_iload dX11_feed_58 rfl ?_
    refine e_imulN dX11_feed_60 ?_
    refine e_lushr dX11_feed_61 ?_
    refine e_l2i dX11_feed_62 ?_
    refine e_sipush (nI (255)) dX11_feed_63 (by decide) ?_
    refine e_iand dX11_feed_66 ?_
    refine e_top (byW w k) (by_eq w k (by omega)) ?_
    refine c_V1v (nc := 0) (ns := 0) (mc := 0) (ms := 0) (N := mX5_add) dX11_feed_67 lv_X11_190 mo_X5_add hRP.cn (Nat.le_of_ble_eq_true rfl) (Nat.le_of_ble_eq_true rfl) (by decide) (k_radd D hRP (by decide) (by omega) (byW w k)) (fun h hP => ?_)
    obtain ⟨hR2, hF2⟩ := hP
    have hF := hF.trans (hF2.frc (by decide) (by decide))
    have hC : ClsS h (wN s (fdW w (sN s) (tlN (sN s)) (k + 1))) := hC.feed hIM htl9 hPe hR2 hF2 (by omega)
    refine e_iincN (k + 1) dX11_feed_70 rfl (by decide) (nI_add _ _) ?_
    refine e_goto 42 dX11_feed_73 (by decide) ?_
    exact ih (k + 1) _ (by omega) hC hF
set_option maxRecDepth 20000 in
theorem cp_feed (D : En) {h : AH} {s : SS} (hI : INV s) (hC : ClsS h s) (w : Int64) (n : Int32) : Sp D 1 mX11_feed [.ref (11), .long (w), .int (n)] h 0 0 (some (.int (f_feed s w n).1)) (fun h' => ClsS h' (f_feed s w n).2 ∧ FrC h h') := by
  have hY := hI.1.1
  have hnv := hY.2.1
  have htc10 := hY.2.2.2.1
  obtain ⟨h00, hh00⟩ : ∃ z, z = h := ⟨_, rfl⟩
  have hF : FrC h00 h := by rw [hh00]; exact FrC.rf
  intro post hp
  rw [← hh00] at hp
  show Ev D 1 mX11_feed 0 [some (.ref (11)), some (.long (w)), none, some (.int (n)), none] [] h 0 0 post
  obtain ⟨fP, bP, hRP, hPe⟩ := hC.2.1.2.2.2.1
  rw [hI.1.2.1.1] at hRP
  have ht50 := hI.1.2.1.2
  refine e_iload_n dX11_feed_0 rfl ?_
  refine e_iconst (nI (1)) dX11_feed_1 (by decide) ?_
  refine e_bipush (nI (8)) dX11_feed_2 (by decide) ?_
  refine c_S3iR (N := mX11_within) dX11_feed_4 ls_X11_72 mo_X11_within  (Nat.le_of_ble_eq_true rfl) (Nat.le_of_ble_eq_true rfl) (by decide) (c_within D ((n)) (nI (1)) (nI (8))) ?_
  refine e_if_neB 16 dX11_feed_7 (by decide) (fun hcq7 => ?_) (fun hcq7 => ?_)
  · obtain ⟨hn_n, hg_n, hl_n⟩ := wiN hcq7 (by decide) (by decide)
    refine e_aload_n dX11_feed_16 rfl ?_
    refine e_get dX11_feed_17 fl_X11_10_11 hC.1 rfl ?_
    refine e_get dX11_feed_20 fl_X11_187_2 hC.2.1.1 rfl ?_
    refine e_get dX11_feed_23 fl_X11_93_5 hRP.1 rfl ?_
    refine e_iload_n dX11_feed_26 rfl ?_
    refine e_top (nI (tn n)) (hn_n) ?_
    refine e_iaddN dX11_feed_27 ?_
    refine e_bipush (nI (50)) dX11_feed_28 (by decide) ?_
    refine e_icmp_leN 39 dX11_feed_30 (by decide) (by omega) (by omega) (fun hcq30 => ?_) (fun hcq30 => ?_)
    · refine e_iconst (nI (0)) dX11_feed_39 (by decide) ?_
      refine e_istore dX11_feed_40 (by decide) ?_
      have e9 : f_feed s w n = (nI (tlN (sN s) + tn n), wN s (fdW w (sN s) (tlN (sN s)) (tn n))) := by rw [f_feed, if_pos hcq7, if_neg (by omega)]
      rw [e9] at hp
      exact cl_feed D hI w n hn_n hg_n hl_n (by omega) hp (tn n) 0 _ (by omega) hC hF
    · refine e_aload_n dX11_feed_33 rfl ?_
      refine e_iconst (nI (4)) dX11_feed_34 (by decide) ?_
      refine c_V1i (nc := 0) (ns := 0) (mc := 0) (ms := 0) (N := mX11_error) dX11_feed_35 lv_X11_54 mo_X11_error hC.cn (Nat.le_of_ble_eq_true rfl) (Nat.le_of_ble_eq_true rfl) (by decide) (c_error D hC 4 (by decide)) (fun h hP => ?_)
      obtain ⟨hC, hF1⟩ := hP
      have hF := hF.trans hF1
      have e9 : f_feed s w n = er 4 (s) := by rw [f_feed, if_pos hcq7, if_pos (by omega)]
      rw [e9] at hp
      exact e_iret dX11_feed_38 rfl (hp _ ⟨hC, hF⟩)
  · refine e_aload_n dX11_feed_10 rfl ?_
    refine e_iconst (nI (1)) dX11_feed_11 (by decide) ?_
    refine c_V1i (nc := 0) (ns := 0) (mc := 0) (ms := 0) (N := mX11_error) dX11_feed_12 lv_X11_54 mo_X11_error hC.cn (Nat.le_of_ble_eq_true rfl) (Nat.le_of_ble_eq_true rfl) (by decide) (c_error D hC 1 (by decide)) (fun h hP => ?_)
    obtain ⟨hC, hF1⟩ := hP
    have hF := hF.trans hF1
    have e9 : f_feed s w n = er 1 (s) := by rw [f_feed, if_neg hcq7]
    rw [e9] at hp
    exact e_iret dX11_feed_15 rfl (hp _ ⟨hC, hF⟩)
theorem upd2 {f : Nat → Int32} {k : Nat} {x y : Int32} : upd (upd f k x) k y = upd f k y := by
  funext j
  by_cases e : j = k
  · subst e; rw [pk_us, pk_us]
  · rw [pk_un e, pk_un e, pk_un e]
theorem updS {f : Nat → Int32} {k : Nat} : upd f k (f k) = f := by
  funext j
  by_cases e : j = k
  · subst e; exact pk_us
  · exact pk_un e
def drU (z : Int32) : Int32 := ((drZ z).toUInt32 >>> ((nI 8).toUInt32 &&& Int32.toUInt32 31)).toInt32
theorem nv_up5 {N : Nat → Int32} {x : Int32} : nvN (upd N 5 x) = nvN N := congrArg tn (pk_un (by decide))
theorem c_draw2 (D : En) {h : AH} {s : SS} {M : Nat → Int32} {z : Int32} (hC : ClsS h (wN s (upd M 5 z))) (hI : IN M) : Sp D 0 mX2_draw [.ref 12] h 0 0 (some (.int (drU z))) (fun h' => ClsS h' (wN s (upd M 5 (drZ z))) ∧ FrC h h') := by
  have hI2 : IN (upd M 5 z) := IN_up hI (by unfold FI; omega) (by omega) (PW_other hI.2.2.2.1 (by omega))
  have q := c_draw (s := wN s (upd M 5 z)) D hC hI2
  have e : sN (wN s (upd M 5 z)) 5 = z := (show upd M 5 z 5 = z from pk_us)
  rw [e] at q
  have e2 : upd (sN (wN s (upd M 5 z))) 5 (drZ z) = upd M 5 (drZ z) := upd2
  rw [e2] at q
  exact q
set_option maxRecDepth 20000 in
theorem cl_made (D : En) {s : SS} (hI : INV s) {h00 : AH} {post : Option Value → AH → Prop} (n : Int32) (hn_n : n = nI (tn n)) (h8 : nvN (sN s) + tn n ≤ 8) (hp : ∀ h', (ClsS h' ((nI (nvN (sN s) + tn n), wN s (mdN (sN s) (nvN (sN s)) (tn n)))).2 ∧ FrC h00 h') → post (some (.int ((nI (nvN (sN s) + tn n), wN s (mdN (sN s) (nvN (sN s)) (tn n)))).1)) h') : ∀ (j : Nat) (k : Nat) (h : AH), (k + j = tn n) → (ClsS h (wN s (mdN (sN s) (nvN (sN s)) k))) → (FrC h00 h) → Ev D 6 mX11_made 41 [some (.ref (11)), some (.int (n)), some (.int (nI (k))), none, none, none, none, none] [] h 0 0 post := by
  have hY := hI.1.1
  have hnv := hY.2.1
  have htc10 := hY.2.2.2.1
  intro j
  induction j with
  | zero =>
    intro k h hm hC hF
    refine e_iload_n dX11_made_41 rfl ?_
    refine e_iload_n dX11_made_42 rfl ?_
    refine e_top (nI (tn n)) (hn_n) ?_
    refine e_icmp_geN 137 dX11_made_43 (by decide) (by omega) (by omega) (fun hcq43 => ?_) (fun hcq43 => absurd hcq43 (by omega))
    have hIM := (IN_md (k := k) hI.1 rfl (by omega)).1
    have hvM := (IN_md (k := k) hI.1 rfl (by omega)).2
    refine e_aload_n dX11_made_137 rfl ?_
    refine e_get dX11_made_138 fl_X11_10_11 hC.1 rfl ?_
    refine e_get dX11_made_141 fl_X11_58_2 hC.2.1.1 rfl ?_
    refine e_get dX11_made_144 fl_X11_61_4 hC.2.1.2.1.1 rfl ?_
    refine e_top (nI (nvN (mdN (sN s) (nvN (sN s)) k))) hIM.1.1 ?_
    refine e_top (nI (nvN (sN s) + tn n)) (by rw [hvM]; congr 1; omega) ?_
    rw [show k = tn n by omega] at hC
    exact e_iret dX11_made_147 rfl (hp _ ⟨hC, hF⟩)
  | succ j ih =>
    intro k h hm hC hF
    refine e_iload_n dX11_made_41 rfl ?_
    refine e_iload_n dX11_made_42 rfl ?_
    refine e_top (nI (tn n)) (hn_n) ?_
    refine e_icmp_geN 137 dX11_made_43 (by decide) (by omega) (by omega) (fun hcq43 => absurd hcq43 (by omega)) (fun hcq43 => ?_)
    have hIM := (IN_md (k := k) hI.1 rfl (by omega)).1
    have hvM := (IN_md (k := k) hI.1 rfl (by omega)).2
    have hC : ClsS h (wN s (upd (mdN (sN s) (nvN (sN s)) k) 5 ((mdN (sN s) (nvN (sN s)) k) 5))) := by rw [updS]; exact hC
    refine e_aload_n dX11_made_46 rfl ?_
    refine e_get dX11_made_47 fl_X11_10_11 hC.1 rfl ?_
    refine c_V0i (nc := 0) (ns := 0) (mc := 0) (ms := 0) (N := mX2_draw) dX11_made_50 lv_X11_99 mo_X2_draw (Or.inl ⟨2, _, _, hC.2.1.1, rfl, rfl⟩) (Nat.le_of_ble_eq_true rfl) (Nat.le_of_ble_eq_true rfl) (by decide) (c_draw2 D hC hIM) (fun h hP => ?_)
    obtain ⟨hC, hF1⟩ := hP
    have hF := hF.trans hF1
    refine e_bipush (nI (31)) dX11_made_53 (by decide) ?_
    refine e_irem dX11_made_55 (by decide) ?_
    refine e_top (drV (drZ ((mdN (sN s) (nvN (sN s)) k) 5)) (nI 31)) rfl ?_
    refine e_istore_n dX11_made_56 (by decide) ?_
    refine e_aload_n dX11_made_57 rfl ?_
    refine e_get dX11_made_58 fl_X11_10_11 hC.1 rfl ?_
    refine c_V0i (nc := 0) (ns := 0) (mc := 0) (ms := 0) (N := mX2_draw) dX11_made_61 lv_X11_99 mo_X2_draw (Or.inl ⟨2, _, _, hC.2.1.1, rfl, rfl⟩) (Nat.le_of_ble_eq_true rfl) (Nat.le_of_ble_eq_true rfl) (by decide) (c_draw2 D hC hIM) (fun h hP => ?_)
    obtain ⟨hC, hF1⟩ := hP
    have hF := hF.trans hF1
    refine e_bipush (nI (31)) dX11_made_64 (by decide) ?_
    refine e_irem dX11_made_66 (by decide) ?_
    refine e_top (drV (drZ (drZ ((mdN (sN s) (nvN (sN s)) k) 5))) (nI 31)) rfl ?_
    refine e_istore dX11_made_67 (by decide) ?_
    refine e_aload_n dX11_made_69 rfl ?_
    refine e_get dX11_made_70 fl_X11_10_11 hC.1 rfl ?_
    refine c_V0i (nc := 0) (ns := 0) (mc := 0) (ms := 0) (N := mX2_draw) dX11_made_73 lv_X11_99 mo_X2_draw (Or.inl ⟨2, _, _, hC.2.1.1, rfl, rfl⟩) (Nat.le_of_ble_eq_true rfl) (Nat.le_of_ble_eq_true rfl) (by decide) (c_draw2 D hC hIM) (fun h hP => ?_)
    obtain ⟨hC, hF1⟩ := hP
    have hF := hF.trans hF1
    refine e_bipush (nI (100)) dX11_made_76 (by decide) ?_
    refine e_irem dX11_made_78 (by decide) ?_
    refine e_top (drV (drZ (drZ (drZ ((mdN (sN s) (nvN (sN s)) k) 5)))) (nI 100)) rfl ?_
    refine e_istore dX11_made_79 (by decide) ?_
    refine e_aload_n dX11_made_81 rfl ?_
    refine e_get dX11_made_82 fl_X11_10_11 hC.1 rfl ?_
    refine c_V0i (nc := 0) (ns := 0) (mc := 0) (ms := 0) (N := mX2_draw) dX11_made_85 lv_X11_99 mo_X2_draw (Or.inl ⟨2, _, _, hC.2.1.1, rfl, rfl⟩) (Nat.le_of_ble_eq_true rfl) (Nat.le_of_ble_eq_true rfl) (by decide) (c_draw2 D hC hIM) (fun h hP => ?_)
    obtain ⟨hC, hF1⟩ := hP
    have hF := hF.trans hF1
    refine e_sipush (nI (300)) dX11_made_88 (by decide) ?_
    refine e_irem dX11_made_91 (by decide) ?_
    refine e_top (drV (drZ (drZ (drZ (drZ ((mdN (sN s) (nvN (sN s)) k) 5))))) (nI 300)) rfl ?_
    refine e_istore dX11_made_92 (by decide) ?_
    refine e_aload_n dX11_made_94 rfl ?_
    refine e_get dX11_made_95 fl_X11_10_11 hC.1 rfl ?_
    refine c_V0i (nc := 0) (ns := 0) (mc := 0) (ms := 0) (N := mX2_draw) dX11_made_98 lv_X11_99 mo_X2_draw (Or.inl ⟨2, _, _, hC.2.1.1, rfl, rfl⟩) (Nat.le_of_ble_eq_true rfl) (Nat.le_of_ble_eq_true rfl) (by decide) (c_draw2 D hC hIM) (fun h hP => ?_)
    obtain ⟨hC, hF1⟩ := hP
    have hF := hF.trans hF1
    refine e_sipush (nI (200)) dX11_made_101 (by decide) ?_
    refine e_irem dX11_made_104 (by decide) ?_
    refine e_top (drV (drZ (drZ (drZ (drZ (drZ ((mdN (sN s) (nvN (sN s)) k) 5)))))) (nI 200)) rfl ?_
    refine e_istore dX11_made_105 (by decide) ?_
    refine e_aload_n dX11_made_107 rfl ?_
    refine e_get dX11_made_108 fl_X11_10_11 hC.1 rfl ?_
    refine e_get dX11_made_111 fl_X11_58_2 hC.2.1.1 rfl ?_
    refine e_bipush (nI (100)) dX11_made_114 (by decide) ?_
    refine e_iload_n dX11_made_116 rfl ?_
    refine e_imul dX11_made_117 ?_
    refine e_iload dX11_made_118 rfl ?_
    refine e_iadd dX11_made_120 ?_
    refine e_iload dX11_made_121 rfl ?_
    refine e_iload dX11_made_123 rfl ?_
    refine e_iload dX11_made_125 rfl ?_
    have hI5 : IN (upd (mdN (sN s) (nvN (sN s)) k) 5 (drZ (drZ (drZ (drZ (drZ ((mdN (sN s) (nvN (sN s)) k) 5))))))) := IN_up hIM (by unfold FI; omega) (by omega) (PW_other hIM.2.2.2.1 (by omega))
    have hv5 : nvN (upd (mdN (sN s) (nvN (sN s)) k) 5 (drZ (drZ (drZ (drZ (drZ ((mdN (sN s) (nvN (sN s)) k) 5))))))) = nvN (sN s) + k := nv_up5.trans hvM
    have hI6 : IN (setR (upd (mdN (sN s) (nvN (sN s)) k) 5 (drZ (drZ (drZ (drZ (drZ ((mdN (sN s) (nvN (sN s)) k) 5))))))) (nvN (upd (mdN (sN s) (nvN (sN s)) k) 5 (drZ (drZ (drZ (drZ (drZ ((mdN (sN s) (nvN (sN s)) k) 5)))))))) (nI 100 * drV (drZ ((mdN (sN s) (nvN (sN s)) k) 5)) (nI 31) + drV (drZ (drZ ((mdN (sN s) (nvN (sN s)) k) 5))) (nI 31)) (drV (drZ (drZ (drZ ((mdN (sN s) (nvN (sN s)) k) 5)))) (nI 100)) (drV (drZ (drZ (drZ (drZ ((mdN (sN s) (nvN (sN s)) k) 5))))) (nI 300)) (drV (drZ (drZ (drZ (drZ (drZ ((mdN (sN s) (nvN (sN s)) k) 5)))))) (nI 200))) := IN_set hI5 rfl (by rw [hv5]; omega) (rg_dr _ 100 (by decide) (by decide)) (rg_dr _ 300 (by decide) (by decide)) (rg_dr _ 200 (by decide) (by decide))
    skip
    refine c_V4i (nc := 0) (ns := 0) (mc := 0) (ms := 0) (N := mX4_addVillage) dX11_made_127 lv_X11_64 mo_X4_addVillage hC.L.1.cn (Nat.le_of_ble_eq_true rfl) (Nat.le_of_ble_eq_true rfl) (by decide) (k_addV (N := upd (mdN (sN s) (nvN (sN s)) k) 5 (drZ (drZ (drZ (drZ (drZ ((mdN (sN s) (nvN (sN s)) k) 5))))))) D hC.L hI5 (((nI (100) * (drV (drZ ((mdN (sN s) (nvN (sN s)) k) 5)) (nI 31))) + (drV (drZ (drZ ((mdN (sN s) (nvN (sN s)) k) 5))) (nI 31)))) ((drV (drZ (drZ (drZ ((mdN (sN s) (nvN (sN s)) k) 5)))) (nI 100))) ((drV (drZ (drZ (drZ (drZ ((mdN (sN s) (nvN (sN s)) k) 5))))) (nI 300))) ((drV (drZ (drZ (drZ (drZ (drZ ((mdN (sN s) (nvN (sN s)) k) 5)))))) (nI 200))) (by rw [hv5]; omega) hI6) (fun h hP => ?_)
    obtain ⟨hL2, hA2, hT2⟩ := hP
    have hF := hF.trans (hA2.z.frc hC.rb (by decide) (by decide))
    rw [hv5] at hL2
    have hC := ClsS.land (s := wN s (upd (mdN (sN s) (nvN (sN s)) k) 5 (drZ (drZ (drZ (drZ (drZ ((mdN (sN s) (nvN (sN s)) k) 5)))))))) (N' := setR (upd (mdN (sN s) (nvN (sN s)) k) 5 (drZ (drZ (drZ (drZ (drZ ((mdN (sN s) (nvN (sN s)) k) 5))))))) (nvN (sN s) + k) (((nI (100) * (drV (drZ ((mdN (sN s) (nvN (sN s)) k) 5)) (nI 31))) + (drV (drZ (drZ ((mdN (sN s) (nvN (sN s)) k) 5))) (nI 31)))) ((drV (drZ (drZ (drZ ((mdN (sN s) (nvN (sN s)) k) 5)))) (nI 100))) ((drV (drZ (drZ (drZ (drZ ((mdN (sN s) (nvN (sN s)) k) 5))))) (nI 300))) ((drV (drZ (drZ (drZ (drZ (drZ ((mdN (sN s) (nvN (sN s)) k) 5)))))) (nI 200)))) hC hI5 hA2.z hL2 (by rw [tc_setR]; exact hC.T.same hT2) (KT.st (by omega))
    have hC : ClsS h (wN s (mdN (sN s) (nvN (sN s)) (k + 1))) := hC
    refine e_pop dX11_made_130 rfl ?_
    refine e_iincN (k + 1) dX11_made_131 rfl (by decide) (nI_add _ _) ?_
    refine e_goto 41 dX11_made_134 (by decide) ?_
    refine Ev.drop 3 (Ev.drop 4 (Ev.drop 5 (Ev.drop 6 (Ev.drop 7 ?_))))
    exact ih (k + 1) _ (by omega) hC hF
set_option maxRecDepth 20000 in
theorem cp_made (D : En) {h : AH} {s : SS} (hI : INV s) (hC : ClsS h s) (n : Int32) : Sp D 6 mX11_made [.ref (11), .int (n)] h 0 0 (some (.int (f_made s n).1)) (fun h' => ClsS h' (f_made s n).2 ∧ FrC h h') := by
  have hY := hI.1.1
  have hnv := hY.2.1
  have htc10 := hY.2.2.2.1
  obtain ⟨h00, hh00⟩ : ∃ z, z = h := ⟨_, rfl⟩
  have hF : FrC h00 h := by rw [hh00]; exact FrC.rf
  intro post hp
  rw [← hh00] at hp
  show Ev D 6 mX11_made 0 [some (.ref (11)), some (.int (n)), none, none, none, none, none, none] [] h 0 0 post
  refine e_iload_n dX11_made_0 rfl ?_
  refine e_iconst (nI (1)) dX11_made_1 (by decide) ?_
  refine e_bipush (nI (8)) dX11_made_2 (by decide) ?_
  refine c_S3iR (N := mX11_within) dX11_made_4 ls_X11_72 mo_X11_within  (Nat.le_of_ble_eq_true rfl) (Nat.le_of_ble_eq_true rfl) (by decide) (c_within D ((n)) (nI (1)) (nI (8))) ?_
  refine e_if_neB 16 dX11_made_7 (by decide) (fun hcq7 => ?_) (fun hcq7 => ?_)
  · obtain ⟨hn_n, hg_n, hl_n⟩ := wiN hcq7 (by decide) (by decide)
    refine e_aload_n dX11_made_16 rfl ?_
    refine e_get dX11_made_17 fl_X11_10_11 hC.1 rfl ?_
    refine e_get dX11_made_20 fl_X11_58_2 hC.2.1.1 rfl ?_
    refine e_get dX11_made_23 fl_X11_61_4 hC.2.1.2.1.1 rfl ?_
    refine e_top (nI (nvN (sN s))) hY.1 ?_
    refine e_iload_n dX11_made_26 rfl ?_
    refine e_top (nI (tn n)) (hn_n) ?_
    refine e_iaddN dX11_made_27 ?_
    refine e_bipush (nI (8)) dX11_made_28 (by decide) ?_
    refine e_icmp_leN 39 dX11_made_30 (by decide) (by omega) (by omega) (fun hcq30 => ?_) (fun hcq30 => ?_)
    · refine e_iconst (nI (0)) dX11_made_39 (by decide) ?_
      refine e_istore_n dX11_made_40 (by decide) ?_
      have e9 : f_made s n = (nI (nvN (sN s) + tn n), wN s (mdN (sN s) (nvN (sN s)) (tn n))) := by rw [f_made, if_pos hcq7, if_neg (by omega)]
      rw [e9] at hp
      exact cl_made D hI n hn_n (by omega) hp (tn n) 0 _ (by omega) hC hF
    · refine e_aload_n dX11_made_33 rfl ?_
      refine e_iconst (nI (4)) dX11_made_34 (by decide) ?_
      refine c_V1i (nc := 0) (ns := 0) (mc := 0) (ms := 0) (N := mX11_error) dX11_made_35 lv_X11_54 mo_X11_error hC.cn (Nat.le_of_ble_eq_true rfl) (Nat.le_of_ble_eq_true rfl) (by decide) (c_error D hC 4 (by decide)) (fun h hP => ?_)
      obtain ⟨hC, hF1⟩ := hP
      have hF := hF.trans hF1
      have e9 : f_made s n = er 4 (s) := by rw [f_made, if_pos hcq7, if_pos (by omega)]
      rw [e9] at hp
      exact e_iret dX11_made_38 rfl (hp _ ⟨hC, hF⟩)
  · refine e_aload_n dX11_made_10 rfl ?_
    refine e_iconst (nI (1)) dX11_made_11 (by decide) ?_
    refine c_V1i (nc := 0) (ns := 0) (mc := 0) (ms := 0) (N := mX11_error) dX11_made_12 lv_X11_54 mo_X11_error hC.cn (Nat.le_of_ble_eq_true rfl) (Nat.le_of_ble_eq_true rfl) (by decide) (c_error D hC 1 (by decide)) (fun h hP => ?_)
    obtain ⟨hC, hF1⟩ := hP
    have hF := hF.trans hF1
    have e9 : f_made s n = er 1 (s) := by rw [f_made, if_neg hcq7]
    rw [e9] at hp
    exact e_iret dX11_made_15 rfl (hp _ ⟨hC, hF⟩)
