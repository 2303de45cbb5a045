theorem ClsS.ck {h : AH} {s : SS} (hC : ClsS h s) : CK h s := hC.2.2.1
theorem ClsS.a44 {h : AH} {s : SS} (hC : ClsS h s) : Shp h 46 := hC.2.2.2.1
theorem ClsS.p55 {h : AH} {s : SS} (hC : ClsS h s) : Shp h 58 := hC.2.2.2.2.1
theorem ClsS.ch {h : AH} {s : SS} (hC : ClsS h s) : CH h := hC.2.2.2.2.2.1
theorem ClsS.tr {h : AH} {s : SS} (hC : ClsS h s) : TR h (sT s) := hC.2.2.2.2.2.2.1
theorem ClsS.cr {h : AH} {s : SS} (hC : ClsS h s) : CR h s := hC.2.2.2.2.2.2.2.2.1
theorem ClsS.cx {h : AH} {s : SS} (hC : ClsS h s) : CX h := hC.2.2.2.2.2.2.2.2.2.2.1
theorem ClsS.len {h : AH} {s : SS} (hC : ClsS h s) : 101 ≤ h.length := hC.2.2.2.2.2.2.2.2.2.2.2
theorem e_ildX {D : En} {d : Nat} {M : Mt} {pc : Nat} {ls : List (Option Value)} {st : List Value} {h : AH} {nc ns : Nat} {post : Option Value → AH → Prop} {a n : Nat} {f : Nat → Int32} {i : Int32} (k : Nat) (v : Int32) (hd : decode M.2.1 pc = .ok (.iaload, 1)) (hc : h[a]? = some (.inl (6, n, .inl f))) (ha : a < nX) (hi : i = nI k) (hk : k < n) (hn : n < 2 ^ 31) (hv : f k = v) (kk : Ev D d M (pc + 1) ls (.int v :: st) h nc ns post) : Ev D d M (pc) ls (.int i :: .ref a :: st) h nc ns post := by
  subst hi
  refine e_ialoadX hd hc ha (vp_in_nI hk hn) ?_
  rw [nI_clamp (by omega), hv]
  exact kk
theorem opB_bits {N : Nat → Int32} (hN : ∀ t, t < 10 → rg (N (112 + 7 * t + 5)) 1) : ∀ n, n ≤ 10 → ∃ m, m < 2 ^ n ∧ orF (openR N) n = nI m ∧ nI (bcN m 10) = sumF (fun t => N (112 + 7 * t + 5)) n := by
  intro n
  induction n with
  | zero => intro _; exact ⟨0, by decide, rfl, rfl⟩
  | succ n ih =>
    intro hn
    obtain ⟨m, m1, m2, m3⟩ := ih (by omega)
    rw [orF, sumF, m2, ← m3]
    unfold openR
    by_cases q : N (112 + 7 * n + 5) = nI 1
    · obtain ⟨b1, b2⟩ := bc_or n (by omega) m m1
      refine ⟨m + 2 ^ n, by rw [Nat.pow_succ]; omega, by rw [if_pos q, b1], ?_⟩
      rw [b2, q, nI_add]
    · refine ⟨m, by rw [Nat.pow_succ]; omega, by rw [if_neg q, or_0], ?_⟩
      rw [rg01 (hN n (by omega)) q, add_0]
theorem bc_op {N : Nat → Int32} (hI : IN N) : bcR (opB N) = sumF (fun t => N (112 + 7 * t + 5)) (tcN N) := by
  obtain ⟨m, m1, m2, m3⟩ := opB_bits (fun t ht => (hI.2.2.2.1.2.2.1 t ht).1) (tcN N) hI.1.2.2.2.1
  have hm : m < 1024 := Nat.lt_of_lt_of_le m1 (Nat.pow_le_pow_right (by decide) hI.1.2.2.2.1)
  unfold opB
  rw [m2, bc_ok m hm, m3]
theorem stk_2 {a b c d c' d' : Int32} : ∀ (tx : List Nat) (st : List Int32), (∀ q, q ∈ tx → WQ 2 q) → stk a b c d tx st = stk a b c' d' tx st := by
  intro tx
  induction tx with
  | nil => intro st _; rfl
  | cons q qs ih =>
    intro st hq
    have h1 := hq q List.mem_cons_self
    have ih2 := fun st => ih st (fun x hx => hq x (List.mem_cons_of_mem _ hx))
    rw [stk_cons, stk_cons]
    by_cases z : q < 20000
    · rw [if_pos z, if_pos z]
      have h2 := h1.2 rfl
      have e : pushV a b c d q = pushV a b c' d' q := by
        unfold pushV
        by_cases z1 : q < 10000
        · rw [if_pos z1, if_pos z1]
        · rw [if_neg z1, if_neg z1]
          by_cases z2 : q = 10000
          · rw [if_pos z2, if_pos z2]
          · rw [if_neg z2, if_neg z2, if_pos (by omega), if_pos (by omega)]
      rw [e]
      exact ih2 _
    · rw [if_neg z, if_neg z]
      by_cases z3 : q = 20010
      · rw [if_pos z3, if_pos z3]
        cases st with
        | nil => rfl
        | cons x s' => exact ih2 _
      · rw [if_neg z3, if_neg z3]
        cases st with
        | nil => rfl
        | cons y s1 =>
          cases s1 with
          | nil => rfl
          | cons x s2 => exact ih2 _
theorem gv2_c {N : Nat → Int32} (hI : IN N) (a b c : Int32) : givenR (txN N 2) 2 a b c (nI 0) = givenR (txN N 2) 2 a b (nI 0) (nI 0) := by
  rw [gv2, gv2]
  have e : valT (txN N 2) a b c (nI 0) = valT (txN N 2) a b (nI 0) (nI 0) := by
    unfold valT
    rw [stk_2 (txN N 2) [] (hI.2.2.2.2 2 (by decide))]
  rw [e]
set_option maxRecDepth 20000 in
theorem cp_law (D : En) {h : AH} {s : SS} (hI : INV s) (hC : ClsS h s) (u : Int32) (a : Int32) (b : Int32) (c : Int32) : Sp D 3 mX11_law [.ref (11), .int (u), .int (a), .int (b), .int (c)] h 0 0 (some (.int (f_law s u a b c).1)) (fun h' => ClsS h' (f_law s u a b c).2 ∧ FrC h h') := by
  have hY := hI.1.1
  have hnv := hY.2.1
  have htc10 := hY.2.2.2.1
  obtain ⟨h00, hh00⟩ : ∃ z, z = h := ⟨_, rfl⟩
  have hF : FrC h00 h := by rw [hh00]; exact FrC.rf
  intro post hp
  rw [← hh00] at hp
  show Ev D 3 mX11_law 0 [some (.ref (11)), some (.int (u)), some (.int (a)), some (.int (b)), some (.int (c))] [] h 0 0 post
  refine e_iload_n dX11_law_0 rfl ?_
  by_cases hw : nI 0 ≤ u ∧ u ≤ nI 2
  · obtain ⟨hn_u, hg_u, hl_u⟩ := wiN hw (by decide) (by decide)
    rcases (show tn u = 0 ∨ tn u = 1 ∨ tn u = 2 by omega) with e0 | e0 | e0
    · refine e_top (nI 0) (by rw [hn_u, e0]) ?_
      refine e_tableIn (off := 27) 28 dX11_law_1 (by decide) (by decide) (by decide) (by decide) ?_
      refine e_aload_n dX11_law_28 rfl ?_
      refine e_get dX11_law_29 fl_X11_10_11 hC.1 rfl ?_
      refine e_get dX11_law_32 fl_X11_58_2 hC.2.1.1 rfl ?_
      refine e_iload_n dX11_law_35 rfl ?_
      refine e_iload_n dX11_law_36 rfl ?_
      refine e_iload dX11_law_37 rfl ?_
      refine e_iconst (nI (0)) dX11_law_39 (by decide) ?_
      refine c_V4i (nc := 0) (ns := 0) (mc := 0) (ms := 0) (N := mX4_isToShut) dX11_law_40 lv_X11_204 mo_X4_isToShut hC.L.1.cn (Nat.le_of_ble_eq_true rfl) (Nat.le_of_ble_eq_true rfl) (by decide) (k_isToShut D hC.L.1 hI.1 ((a)) ((b)) ((c)) (nI (0))) (fun h hP => ?_)
      have hF := hF.trans (hP.frc hC.rb)
      have hC := hC.pr hP
      refine e_if_eq 50 dX11_law_43 (by decide) (fun hcq43 => ?_) (fun hcq43 => ?_)
      · refine e_iconst (nI (0)) dX11_law_50 (by decide) ?_
        have e9 : f_law s u a b c = (nI (0), s) := by rw [f_law, if_pos hw, e0, show givenR (txN (sN s) 0) 0 a b c (nI 0) = nI 0 from hcq43]
        rw [e9] at hp
        exact e_iret dX11_law_51 rfl (hp _ ⟨hC, hF⟩)
      · refine e_iconst (nI (1)) dX11_law_46 (by decide) ?_
        refine e_goto 51 dX11_law_47 (by decide) ?_
        have e9 : f_law s u a b c = (nI (1), s) := by rw [f_law, if_pos hw, e0, (gv0_b (txN (sN s) 0) a b c (nI 0)).resolve_left hcq43]
        rw [e9] at hp
        exact e_iret dX11_law_51 rfl (hp _ ⟨hC, hF⟩)
    · refine e_top (nI 1) (by rw [hn_u, e0]) ?_
      refine e_tableIn (off := 51) 52 dX11_law_1 (by decide) (by decide) (by decide) (by decide) ?_
      refine e_aload_n dX11_law_52 rfl ?_
      refine e_get dX11_law_53 fl_X11_10_11 hC.1 rfl ?_
      refine e_get dX11_law_56 fl_X11_58_2 hC.2.1.1 rfl ?_
      refine e_iload_n dX11_law_59 rfl ?_
      refine e_iload_n dX11_law_60 rfl ?_
      refine e_iload dX11_law_61 rfl ?_
      refine c_V3i (nc := 0) (ns := 0) (mc := 0) (ms := 0) (N := mX4_shareToGo) dX11_law_63 lv_X11_207 mo_X4_shareToGo hC.L.1.cn (Nat.le_of_ble_eq_true rfl) (Nat.le_of_ble_eq_true rfl) (by decide) (k_shareToGo D hC.L.1 hI.1 ((a)) ((b)) ((c))) (fun h hP => ?_)
      have hF := hF.trans (hP.frc hC.rb)
      have hC := hC.pr hP
      have e9 : f_law s u a b c = ((givenR (txN (sN s) 1) 1 ((a)) ((b)) ((c)) (nI 0)), s) := by rw [f_law, if_pos hw, e0]
      rw [e9] at hp
      exact e_iret dX11_law_66 rfl (hp _ ⟨hC, hF⟩)
    · refine e_top (nI 2) (by rw [hn_u, e0]) ?_
      refine e_tableIn (off := 66) 67 dX11_law_1 (by decide) (by decide) (by decide) (by decide) ?_
      refine e_aload_n dX11_law_67 rfl ?_
      refine e_get dX11_law_68 fl_X11_10_11 hC.1 rfl ?_
      refine e_get dX11_law_71 fl_X11_58_2 hC.2.1.1 rfl ?_
      refine e_iload_n dX11_law_74 rfl ?_
      refine e_iload_n dX11_law_75 rfl ?_
      refine c_V2i (nc := 0) (ns := 0) (mc := 0) (ms := 0) (N := mX4_shareToCome) dX11_law_76 lv_X11_211 mo_X4_shareToCome hC.L.1.cn (Nat.le_of_ble_eq_true rfl) (Nat.le_of_ble_eq_true rfl) (by decide) (k_shareToCome D hC.L.1 hI.1 ((a)) ((b))) (fun h hP => ?_)
      have hF := hF.trans (hP.frc hC.rb)
      have hC := hC.pr hP
      have e9 : f_law s u a b c = ((givenR (txN (sN s) 2) 2 ((a)) ((b)) (nI 0) (nI 0)), s) := by rw [f_law, if_pos hw, e0, gv2_c hI.1]
      rw [e9] at hp
      exact e_iret dX11_law_79 rfl (hp _ ⟨hC, hF⟩)
  · refine e_tableOut 80 dX11_law_1 (sw_out hw (by decide)) (by decide) ?_
    refine e_aload_n dX11_law_80 rfl ?_
    refine e_iconst (nI (1)) dX11_law_81 (by decide) ?_
    refine c_V1i (nc := 0) (ns := 0) (mc := 0) (ms := 0) (N := mX11_error) dX11_law_82 lv_X11_54 mo_X11_error hC.cn (Nat.le_of_ble_eq_true rfl) (Nat.le_of_ble_eq_true rfl) (by decide) (c_error D hC 1 (by decide)) (fun h hP => ?_)
    obtain ⟨hC, hF1⟩ := hP
    have hF := hF.trans hF1
    have e9 : f_law s u a b c = er 1 (s) := by rw [f_law, if_neg hw]
    rw [e9] at hp
    exact e_iret dX11_law_85 rfl (hp _ ⟨hC, hF⟩)
set_option maxRecDepth 20000 in
theorem cp_rate (D : En) {h : AH} {s : SS} (hI : INV s) (hC : ClsS h s) (r : Int32) (x : Int32) : Sp D 1 mX11_rate [.ref (11), .int (r), .int (x)] h 0 0 (some (.int (f_rate s r x).1)) (fun h' => ClsS h' (f_rate s r x).2 ∧ FrC h h') := by
  have hY := hI.1.1
  have hnv := hY.2.1
  have htc10 := hY.2.2.2.1
  obtain ⟨h00, hh00⟩ : ∃ z, z = h := ⟨_, rfl⟩
  have hF : FrC h00 h := by rw [hh00]; exact FrC.rf
  obtain ⟨hLo, ⟨f1, hr1, he1⟩, ⟨f2, hr2, he2⟩, ⟨f3, hr3, he3⟩, ⟨T4, hr4, he4⟩, ⟨f5, hr5, he5⟩, ⟨f6, hr6, he6⟩, ⟨f7, hr7, he7⟩, ⟨R8, hr8, he8⟩, ⟨f9, hr9⟩, ⟨f10, hr10⟩, ⟨fG, hrG, heG⟩⟩ := id hC.L.1
  intro post hp
  rw [← hh00] at hp
  show Ev D 1 mX11_rate 0 [some (.ref (11)), some (.int (r)), some (.int (x)), none] [] h 0 0 post
  refine e_iload_n dX11_rate_0 rfl ?_
  refine e_iconst (nI (0)) dX11_rate_1 (by decide) ?_
  refine e_iconst (nI (5)) dX11_rate_2 (by decide) ?_
  refine c_S3iR (N := mX11_within) dX11_rate_3 ls_X11_72 mo_X11_within  (Nat.le_of_ble_eq_true rfl) (Nat.le_of_ble_eq_true rfl) (by decide) (c_within D ((r)) (nI (0)) (nI (5))) ?_
  refine e_if_eqB 26 dX11_rate_6 (by decide) (fun hcq6 => ?_) (fun hcq6 => ?_)
  · refine e_aload_n dX11_rate_26 rfl ?_
    refine e_iconst (nI (1)) dX11_rate_27 (by decide) ?_
    refine c_V1i (nc := 0) (ns := 0) (mc := 0) (ms := 0) (N := mX11_error) dX11_rate_28 lv_X11_54 mo_X11_error hC.cn (Nat.le_of_ble_eq_true rfl) (Nat.le_of_ble_eq_true rfl) (by decide) (c_error D hC 1 (by decide)) (fun h hP => ?_)
    obtain ⟨hC, hF1⟩ := hP
    have hF := hF.trans hF1
    have e9 : f_rate s r x = er 1 (s) := by rw [f_rate, if_neg hcq6]
    rw [e9] at hp
    exact e_iret dX11_rate_31 rfl (hp _ ⟨hC, hF⟩)
  · obtain ⟨hn_r, hg_r, hl_r⟩ := wiN hcq6 (by decide) (by decide)
    refine e_iload_n dX11_rate_9 rfl ?_
    obtain ⟨fL, hfL, heL⟩ := hC.cx.2.1
    obtain ⟨fM, hfM, heM⟩ := hC.cx.2.2
    refine e_gets dX11_rate_10 w_860 (z_least D) ?_
    refine e_iload_n dX11_rate_13 rfl ?_
    refine e_top (nI (tn r)) (hn_r) ?_
    refine e_ildX (tn r) (rLo (tn r)) dX11_rate_14 hfL (by decide) rfl (by omega) (by decide) (heL _ (by omega)) ?_
    refine e_gets dX11_rate_15 w_862 (z_most D) ?_
    refine e_iload_n dX11_rate_18 rfl ?_
    refine e_top (nI (tn r)) (hn_r) ?_
    refine e_ildX (tn r) (rHi (tn r)) dX11_rate_19 hfM (by decide) rfl (by omega) (by decide) (heM _ (by omega)) ?_
    refine c_S3iR (N := mX11_within) dX11_rate_20 ls_X11_72 mo_X11_within  (Nat.le_of_ble_eq_true rfl) (Nat.le_of_ble_eq_true rfl) (by decide) (c_within D ((x)) ((rLo (tn r))) ((rHi (tn r)))) ?_
    refine e_if_neB 32 dX11_rate_23 (by decide) (fun hcq23 => ?_) (fun hcq23 => ?_)
    · refine e_aload_n dX11_rate_32 rfl ?_
      refine e_get dX11_rate_33 fl_X11_10_11 hC.1 rfl ?_
      refine e_get dX11_rate_36 fl_X11_58_2 hC.2.1.1 rfl ?_
      refine e_get dX11_rate_39 fl_X11_220_4 hC.2.1.2.1.1 rfl ?_
      refine e_iload_n dX11_rate_42 rfl ?_
      refine e_top (nI (tn r)) (hn_r) ?_
      refine e_ild (tn r) (((sN s) (7 + (tn r)))) dX11_rate_43 hr7 rfl (by omega) (by decide) (he7 _ (by omega)) ?_
      refine e_istore_n dX11_rate_44 (by decide) ?_
      refine e_aload_n dX11_rate_45 rfl ?_
      refine e_get dX11_rate_46 fl_X11_10_11 hC.1 rfl ?_
      refine e_get dX11_rate_49 fl_X11_58_2 hC.2.1.1 rfl ?_
      refine e_get dX11_rate_52 fl_X11_220_4 hC.2.1.2.1.1 rfl ?_
      refine e_iload_n dX11_rate_55 rfl ?_
      refine e_top (nI (tn r)) (hn_r) ?_
      refine e_iload_n dX11_rate_56 rfl ?_
      refine e_ist (tn r) dX11_rate_57 hr7 rfl (by omega) (by decide) ?_
      have hF := hF.set (c := .inl (0, 6, .inl (upd f7 (tn r) ((x))))) (show 11 ≤ 13 + 8 by decide) (show 13 + 8 < 82 by decide)
      have hC := hC.lset hI.1 (show 13 ≤ 13 + 8 ∧ 13 + 8 ≤ 24 ∧ 13 + 8 ≠ 17 by decide) (hC.L.set (by decide) (fun fs e => by cases e) (hC.L.1.rt hI.1 (by decide) hr7 (k := tn r) (by omega) ((x)))) (tc_up (by omega)) (KT.up (by omega))
      refine e_iload_n dX11_rate_58 rfl ?_
      have e9 : f_rate s r x = (((sN s) (7 + (tn r))), wN s (upd (sN s) (7 + tn r) ((x)))) := by rw [f_rate, if_pos hcq6, if_pos hcq23]
      rw [e9] at hp
      exact e_iret dX11_rate_59 rfl (hp _ ⟨hC, hF⟩)
    · refine e_aload_n dX11_rate_26 rfl ?_
      refine e_iconst (nI (1)) dX11_rate_27 (by decide) ?_
      refine c_V1i (nc := 0) (ns := 0) (mc := 0) (ms := 0) (N := mX11_error) dX11_rate_28 lv_X11_54 mo_X11_error hC.cn (Nat.le_of_ble_eq_true rfl) (Nat.le_of_ble_eq_true rfl) (by decide) (c_error D hC 1 (by decide)) (fun h hP => ?_)
      obtain ⟨hC, hF1⟩ := hP
      have hF := hF.trans hF1
      have e9 : f_rate s r x = er 1 (s) := by rw [f_rate, if_pos hcq6, if_neg hcq23]
      rw [e9] at hp
      exact e_iret dX11_rate_31 rfl (hp _ ⟨hC, hF⟩)
/-- what years leave alone -/
def YU (j : Nat) : Prop := ¬ (j = 0 ∨ j = 12 ∨ (16 ≤ j ∧ j < 48 ∧ ¬ j % 4 = 0) ∨ (112 ≤ j ∧ j < 182 ∧ (j - 112) % 7 = 5))
def YK (N0 N : Nat → Int32) : Prop := ∀ j, YU j → N j = N0 j
theorem YK.rf {N : Nat → Int32} : YK N N := fun _ _ => rfl
theorem YK.up {N0 N : Nat → Int32} (h : YK N0 N) {k : Nat} {x : Int32} (hk : ¬ YU k) : YK N0 (upd N k x) := fun j hj => (show upd N k x j = N j from pk_un (fun e => hk (e ▸ hj))).trans (h j hj)
theorem YK.pe {N0 N : Nat → Int32} (h : YK N0 N) {v w : Nat} {x : Int32} (hv : v < 8) (hw : w < 3) : YK N0 (upd N (16 + 4 * v + 1 + w) x) := h.up (by unfold YU; omega)
theorem YK.kt {N0 N : Nat → Int32} (h : YK N0 N) : KT N0 N := ⟨fun j a b => h j (by unfold YU; omega), fun j a b => h j (by unfold YU; omega)⟩
theorem shW_YK {N N0 : Nat → Int32} (h : YK N0 N) (nv : Nat) (u : List Nat) (t : Nat) (ht : t ≤ 10) : YK N0 (shW N nv u t) := by
  induction t with
  | zero => exact h
  | succ t ih =>
    rw [shW]
    split
    · exact (ih (by omega)).up (by unfold YU; omega)
    · exact ih (by omega)
theorem goS_YK {M : (Nat → Int32) × (Nat → Int32)} {N0 : Nat → Int32} (h : YK N0 M.1) (u : List Nat) (cv al : Int32) (v hv w : Nat) (hv8 : v < 8) (hw : w < 3) : YK N0 (goS u cv al v hv w M).1 := h.pe hv8 hw
theorem goV_YK {N N0 : Nat → Int32} (h : YK N0 N) (u : List Nat) (C : Nat → Int32) (hv v : Nat) (hv8 : v ≤ 8) : YK N0 (goV u C hv N v).1 := by
  induction v with
  | zero => exact h
  | succ v ih =>
    rw [goV]
    exact goS_YK (goS_YK (goS_YK (ih (by omega)) u _ _ v hv 0 (by omega) (by decide)) u _ _ v hv 1 (by omega) (by decide)) u _ _ v hv 2 (by omega) (by decide)
theorem goR_YK {N N0 : Nat → Int32} (h : YK N0 N) (u : List Nat) (C : Nat → Int32) (nv : Nat) (hnv : nv ≤ 8) : YK N0 (goR u C N nv) := by
  unfold goR
  by_cases z : nv = 0
  · rw [if_pos z]; exact h
  · rw [if_neg z]
    have h8 := havW_lt C nv (by omega)
    exact YK.pe (YK.pe (YK.pe (goV_YK h u C _ nv hnv) (by omega) (by decide)) (by omega) (by decide)) (by omega) (by decide)
theorem coW_YK {N N0 : Nat → Int32} (h : YK N0 N) (u : List Nat) (C : Nat → Int32) (v : Nat) (hv8 : v ≤ 8) : YK N0 (coW u C N v) := by
  induction v with
  | zero => exact h
  | succ v ih => exact YK.pe (ih (by omega)) (by omega) (by decide)
theorem lvW_YK {N N0 : Nat → Int32} (h : YK N0 N) (v : Nat) (hv : v < 8) : YK N0 (lvW N v) := YK.pe (YK.pe (YK.pe h hv (by decide)) hv (by decide)) hv (by decide)
theorem lvs_YK {N N0 : Nat → Int32} (h : YK N0 N) (v : Nat) (hv8 : v ≤ 8) : YK N0 (lvs N v) := by
  induction v with
  | zero => exact h
  | succ v ih => exact lvW_YK (ih (by omega)) v (by omega)
theorem cstW_YK {N N0 : Nat → Int32} (h : YK N0 N) (t : Nat) : YK N0 (cstW N t) := by
  induction t with
  | zero => exact h.up (by unfold YU; omega)
  | succ t ih => exact ih.up (by unfold YU; omega)
theorem yearR_YK {N N0 : Nat → Int32} (h : YK N0 N) (G : Nat → Int32) {nv tc : Nat} (hnv : nv ≤ 8) (htc : tc ≤ 10) (tx : Nat → List Nat) : YK N0 (yearR G N nv tc tx) := by
  have h1 : YK N0 (yeR G N nv tc tx) := cstW_YK (lvs_YK (coW_YK (goR_YK (shW_YK h nv (tx 0) tc htc) _ _ nv hnv) _ _ nv hnv) nv hnv) tc
  exact h1.up (by unfold YU; omega)
theorem yrsR_YK {N N0 : Nat → Int32} (h : YK N0 N) (G : Nat → Int32) {nv tc : Nat} (hnv : nv ≤ 8) (htc : tc ≤ 10) (tx : Nat → List Nat) (k : Nat) : YK N0 (yrsR G N nv tc tx k) := by
  induction k with
  | zero => exact h
  | succ k ih => exact yearR_YK ih G hnv htc tx
theorem yrX_YK {N M : Nat → Int32} (hI : IN N) (k : Nat) : YK M (yrX N M k) := yrsR_YK YK.rf G0 hI.1.2.1 hI.1.2.2.2.1 _ k
set_option maxRecDepth 20000 in
theorem cp_years (D : En) {h : AH} {s : SS} (hI : INV s) (hC : ClsS h s) (n : Int32) : Sp D 8 mX11_years [.ref (11), .int (n)] h 0 0 (some (.int (f_years s n).1)) (fun h' => ClsS h' (f_years s n).2 ∧ FrC h h') := by
  have hY := hI.1.1
  have hnv := hY.2.1
  have htc10 := hY.2.2.2.1
  obtain ⟨h00, hh00⟩ : ∃ z, z = h := ⟨_, rfl⟩
  have hF : FrC h00 h := by rw [hh00]; exact FrC.rf
  intro post hp
  rw [← hh00] at hp
  show Ev D 8 mX11_years 0 [some (.ref (11)), some (.int (n))] [] h 0 0 post
  refine e_iload_n dX11_years_0 rfl ?_
  refine e_iconst (nI (1)) dX11_years_1 (by decide) ?_
  refine e_bipush (nI (50)) dX11_years_2 (by decide) ?_
  refine c_S3iR (N := mX11_within) dX11_years_4 ls_X11_72 mo_X11_within  (Nat.le_of_ble_eq_true rfl) (Nat.le_of_ble_eq_true rfl) (by decide) (c_within D ((n)) (nI (1)) (nI (50))) ?_
  refine e_if_neB 16 dX11_years_7 (by decide) (fun hcq7 => ?_) (fun hcq7 => ?_)
  · obtain ⟨hn_n, hg_n, hl_n⟩ := wiN hcq7 (by decide) (by decide)
    refine e_aload_n dX11_years_16 rfl ?_
    refine e_get dX11_years_17 fl_X11_10_11 hC.1 rfl ?_
    refine e_get dX11_years_20 fl_X11_58_2 hC.2.1.1 rfl ?_
    refine e_get dX11_years_23 fl_X11_223_4 hC.2.1.2.1.1 rfl ?_
    refine e_iload_n dX11_years_26 rfl ?_
    refine e_top (nI (tn n)) (hn_n) ?_
    refine e_iadd dX11_years_27 ?_
    refine e_sipush (nI (199)) dX11_years_28 (by decide) ?_
    refine e_icmp_le 40 dX11_years_31 (by decide) (fun hcq31 => ?_) (fun hcq31 => ?_)
    · refine e_aload_n dX11_years_40 rfl ?_
      refine e_get dX11_years_41 fl_X11_10_11 hC.1 rfl ?_
      refine e_get dX11_years_44 fl_X11_58_2 hC.2.1.1 rfl ?_
      refine e_iload_n dX11_years_47 rfl ?_
      refine e_top (nI (tn n)) (hn_n) ?_
      refine c_V1v (nc := 0) (ns := 0) (mc := 0) (ms := 0) (N := mX4_passYears) dX11_years_48 lv_X11_226 mo_X4_passYears hC.L.1.cn (Nat.le_of_ble_eq_true rfl) (Nat.le_of_ble_eq_true rfl) (by decide) (k_years D hC.L hI.1 (tn n) (by omega)) (fun h hP => ?_)
      obtain ⟨hL2, hI2, hF2, hJ2⟩ := hP
      have hT2 := hC.T.fy hF2 hC.rb (by decide)
      have hF := hF.trans (hF2.z.frc hC.rb (by decide) (by decide))
      have hC := hC.land hI.1 hF2.z hL2 (by rw [hJ2.tc]; exact hT2) (yrX_YK hI.1 _).kt
      refine e_aload_n dX11_years_51 rfl ?_
      refine e_get dX11_years_52 fl_X11_10_11 hC.1 rfl ?_
      refine e_get dX11_years_55 fl_X11_58_2 hC.2.1.1 rfl ?_
      refine e_get dX11_years_58 fl_X11_223_4 hC.2.1.2.1.1 rfl ?_
      have e9 : f_years s n = (((yrX (sN s) (sN s) (tn n)) 0), wN s (yrX (sN s) (sN s) (tn n))) := by rw [f_years, if_pos hcq7, if_pos hcq31] <;> rfl
      rw [e9] at hp
      exact e_iret dX11_years_61 rfl (hp _ ⟨hC, hF⟩)
    · refine e_aload_n dX11_years_34 rfl ?_
      refine e_iconst (nI (3)) dX11_years_35 (by decide) ?_
      refine c_V1i (nc := 0) (ns := 0) (mc := 0) (ms := 0) (N := mX11_error) dX11_years_36 lv_X11_54 mo_X11_error hC.cn (Nat.le_of_ble_eq_true rfl) (Nat.le_of_ble_eq_true rfl) (by decide) (c_error D hC 3 (by decide)) (fun h hP => ?_)
      obtain ⟨hC, hF1⟩ := hP
      have hF := hF.trans hF1
      have e9 : f_years s n = er 3 (s) := by rw [f_years, if_pos hcq7, if_neg hcq31]
      rw [e9] at hp
      exact e_iret dX11_years_39 rfl (hp _ ⟨hC, hF⟩)
  · refine e_aload_n dX11_years_10 rfl ?_
    refine e_iconst (nI (1)) dX11_years_11 (by decide) ?_
    refine c_V1i (nc := 0) (ns := 0) (mc := 0) (ms := 0) (N := mX11_error) dX11_years_12 lv_X11_54 mo_X11_error hC.cn (Nat.le_of_ble_eq_true rfl) (Nat.le_of_ble_eq_true rfl) (by decide) (c_error D hC 1 (by decide)) (fun h hP => ?_)
    obtain ⟨hC, hF1⟩ := hP
    have hF := hF.trans hF1
    have e9 : f_years s n = er 1 (s) := by rw [f_years, if_neg hcq7]
    rw [e9] at hp
    exact e_iret dX11_years_15 rfl (hp _ ⟨hC, hF⟩)
set_option maxRecDepth 20000 in
theorem cp_seed (D : En) {h : AH} {s : SS} (hI : INV s) (hC : ClsS h s) (x : Int32) : Sp D 0 mX11_seed [.ref (11), .int (x)] h 0 0 (some (.int (f_seed s x).1)) (fun h' => ClsS h' (f_seed s x).2 ∧ FrC h h') := by
  have hY := hI.1.1
  have hnv := hY.2.1
  have htc10 := hY.2.2.2.1
  obtain ⟨h00, hh00⟩ : ∃ z, z = h := ⟨_, rfl⟩
  have hF : FrC h00 h := by rw [hh00]; exact FrC.rf
  intro post hp
  rw [← hh00] at hp
  show Ev D 0 mX11_seed 0 [some (.ref (11)), some (.int (x)), none] [] h 0 0 post
  refine e_aload_n dX11_seed_0 rfl ?_
  refine e_get dX11_seed_1 fl_X11_10_11 hC.1 rfl ?_
  refine e_get dX11_seed_4 fl_X11_287_2 hC.2.1.1 rfl ?_
  refine e_istore_n dX11_seed_7 (by decide) ?_
  refine e_aload_n dX11_seed_8 rfl ?_
  refine e_get dX11_seed_9 fl_X11_10_11 hC.1 rfl ?_
  refine e_iload_n dX11_seed_12 rfl ?_
  refine e_put dX11_seed_13 fl_X11_287_2 ft_2 (fun q hq => Or.inl (by cases hq; rfl)) hC.2.1.1 (by show _ < 4; decide) rfl rfl ?_
  have hF := hF.set (c := .inr (2, dkF 12 x)) (show 11 ≤ 12 by decide) (show 12 < 82 by decide)
  have hC := hC.z hI.1 x
  refine e_iload_n dX11_seed_16 rfl ?_
  have e9 : f_seed s x = (((sN s) 5), wN s (upd (sN s) 5 x)) := rfl
  rw [e9] at hp
  exact e_iret dX11_seed_17 rfl (hp _ ⟨hC, hF⟩)
set_option maxRecDepth 20000 in
theorem cp_told (D : En) {h : AH} {s : SS} (hI : INV s) (hC : ClsS h s) (k : Int32) : Sp D 1 mX11_told [.ref (11), .int (k)] h 0 0 (some (.int (f_told s k).1)) (fun h' => ClsS h' (f_told s k).2 ∧ FrC h h') := by
  have hY := hI.1.1
  have hnv := hY.2.1
  have htc10 := hY.2.2.2.1
  obtain ⟨h00, hh00⟩ : ∃ z, z = h := ⟨_, rfl⟩
  have hF : FrC h00 h := by rw [hh00]; exact FrC.rf
  intro post hp
  rw [← hh00] at hp
  show Ev D 1 mX11_told 0 [some (.ref (11)), some (.int (k))] [] h 0 0 post
  refine e_iload_n dX11_told_0 rfl ?_
  refine e_iconst (nI (1)) dX11_told_1 (by decide) ?_
  refine e_iconst (nI (5)) dX11_told_2 (by decide) ?_
  refine c_S3iR (N := mX11_within) dX11_told_3 ls_X11_72 mo_X11_within  (Nat.le_of_ble_eq_true rfl) (Nat.le_of_ble_eq_true rfl) (by decide) (c_within D ((k)) (nI (1)) (nI (5))) ?_
  refine e_if_eqB 18 dX11_told_6 (by decide) (fun hcq6 => ?_) (fun hcq6 => ?_)
  · refine e_aload_n dX11_told_18 rfl ?_
    refine e_iconst (nI (1)) dX11_told_19 (by decide) ?_
    refine c_V1i (nc := 0) (ns := 0) (mc := 0) (ms := 0) (N := mX11_error) dX11_told_20 lv_X11_54 mo_X11_error hC.cn (Nat.le_of_ble_eq_true rfl) (Nat.le_of_ble_eq_true rfl) (by decide) (c_error D hC 1 (by decide)) (fun h hP => ?_)
    obtain ⟨hC, hF1⟩ := hP
    have hF := hF.trans hF1
    have e9 : f_told s k = er 1 (s) := by rw [f_told, if_neg hcq6]
    rw [e9] at hp
    exact e_iret dX11_told_23 rfl (hp _ ⟨hC, hF⟩)
  · obtain ⟨hn_k, hg_k, hl_k⟩ := wiN hcq6 (by decide) (by decide)
    refine e_aload_n dX11_told_9 rfl ?_
    refine e_get dX11_told_10 fl_X11_46_11 hC.1 rfl ?_
    refine e_iload_n dX11_told_13 rfl ?_
    refine e_top (nI (tn k)) (hn_k) ?_
    refine e_ild (tn k) ((sE s (tn k))) dX11_told_14 hC.er_ rfl (by omega) (by decide) rfl ?_
    refine e_goto 23 dX11_told_15 (by decide) ?_
    have e9 : f_told s k = ((sE s (tn k)), s) := by rw [f_told, if_pos hcq6]
    rw [e9] at hp
    exact e_iret dX11_told_23 rfl (hp _ ⟨hC, hF⟩)
