/-- a text of USE 2 has two names: the third and fourth number don't matter -/
theorem stk_cd {w : List Nat} (hw : ∀ q, q ∈ w → WQ 2 q) (a b c d c' d' : Int32) : ∀ st, stk a b c d w st = stk a b c' d' w st := by
  induction w with
  | nil => intro st; rfl
  | cons q qs ih =>
    intro st
    have hq := hw q List.mem_cons_self
    have ih' := ih (fun x hx => hw x (List.mem_cons_of_mem _ hx))
    rw [stk_cons, stk_cons]
    split
    · have e : pushV a b c d q = pushV a b c' d' q := by
        have := hq.2 rfl
        unfold pushV
        (repeat' split) <;> first | rfl | omega
      rw [e]
      exact ih' _
    · split
      · cases st with
        | nil => rfl
        | cons x st => exact ih' _
      · match st with
        | [] => rfl
        | [_] => rfl
        | y :: x :: st => exact ih' _
theorem valT_cd {w : List Nat} (hw : ∀ q, q ∈ w → WQ 2 q) (a b c d c' d' : Int32) : valT w a b c d = valT w a b c' d' := by
  unfold valT
  rw [stk_cd hw a b c d c' d']
theorem gv0 {w : List Nat} {a b c d : Int32} : givenR w 0 a b c d = (if w = [] then b2 (a < b) else b2 (¬ valT w a b c d = 0)) := rfl
theorem gv1 {w : List Nat} {a b c d : Int32} : givenR w 1 a b c d = heldR (if w = [] then (nI 3 - a) * nI 4 - b else valT w a b c d) (nI 100) := rfl
theorem gv2 {w : List Nat} {a b c d : Int32} : givenR w 2 a b c d = heldR (if w = [] then nI 0 else valT w a b c d) (nI 20) := rfl
theorem givenR_cd {w : List Nat} (hw : ∀ q, q ∈ w → WQ 2 q) (a b c d c' d' : Int32) : givenR w 2 a b c d = givenR w 2 a b c' d' := by
  rw [gv2, gv2, valT_cd hw a b c d c' d']
/-- a land whose Rules are whole -/
def LB (h : AH) (a : Nat) (N : Nat → Int32) : Prop := LandAt h a N ∧ RB h ∧ a + 11 < 101
theorem LB.pr_ {h h' : AH} {a : Nat} {N : Nat → Int32} (hL : LB h a N) (hP : PR h h') : LB h' a N := ⟨hL.1.pr_ hP hL.2.1 hL.2.2, hP.rb hL.2.1, hL.2.2⟩
set_option maxRecDepth 20000 in
theorem k_isToShut_0 (D : En) {h : AH} {a : Nat} {N : Nat → Int32} (hL : LandAt h a N) (hI : IN N) (x : Int32) (y : Int32) (z : Int32) (w : Int32) (htx : txN N 0 = []) : Sp D 2 mX4_isToShut [.ref (a), .int (x), .int (y), .int (z), .int (w)] h 0 0 (some (.int (givenR (txN N 0) 0 x y z w))) (fun h' => PR h h') := by
  obtain ⟨hLo, ⟨f1, hr1, he1⟩, ⟨f2, hr2, he2⟩, ⟨f3, hr3, he3⟩, ⟨T4, hr4, he4⟩, ⟨f5, hr5, he5⟩, ⟨f6, hr6, he6⟩, ⟨f7, hr7, he7⟩, ⟨R8, hr8, he8⟩, ⟨f9, hr9⟩, ⟨f10, hr10⟩, ⟨fG, hrG, heG⟩⟩ := id hL
  have hY := hI.1
  have hnv := hY.2.1
  have htc10 := hY.2.2.2.1
  obtain ⟨hte, hRn⟩ : txN N 0 = [] ∧ R8 0 = none := (he8 0 (by decide)).resolve_right (fun zz => zz.1 htx)
  intro post hp
  show Ev D 2 mX4_isToShut 0 [some (.ref (a)), some (.int (x)), some (.int (y)), some (.int (z)), some (.int (w)), none] [] h 0 0 post
  refine e_aload_n dX4_isToShut_0 rfl ?_
  refine e_get dX4_isToShut_1 fl_X4_65_4 hLo rfl ?_
  refine e_iconst (nI (0)) dX4_isToShut_4 (by decide) ?_
  refine e_ald (v := none) 0 dX4_isToShut_5 hr8 (Or.inr (Or.inl rfl)) rfl (by decide) (by decide) hRn ?_
  refine e_astoreN dX4_isToShut_6 (by decide) ?_
  refine e_aloadN dX4_isToShut_8 rfl ?_
  refine e_ifnonnullN dX4_isToShut_10 ?_
  refine e_iload_n dX4_isToShut_13 rfl ?_
  refine e_iload_n dX4_isToShut_14 rfl ?_
  refine e_icmp_ge 22 dX4_isToShut_15 (by decide) (fun hcq15 => ?_) (fun hcq15 => ?_)
  · refine e_iconst (nI (0)) dX4_isToShut_22 (by decide) ?_
    refine e_goto 44 dX4_isToShut_23 (by decide) ?_
    refine e_top (givenR (txN N 0) 0 x y z w) (by rw [gv0, if_pos htx]; first | exact (b2_t (Int32.not_le.mp hcq15)).symm | exact (b2_f (Int32.not_lt.mpr hcq15)).symm) ?_
    exact e_zret dX4_isToShut_44 rfl (by rw [gv0, if_pos htx]; exact b2_nar _) (hp _ PR.rf)
  · refine e_iconst (nI (1)) dX4_isToShut_18 (by decide) ?_
    refine e_goto 44 dX4_isToShut_19 (by decide) ?_
    refine e_top (givenR (txN N 0) 0 x y z w) (by rw [gv0, if_pos htx]; first | exact (b2_t (Int32.not_le.mp hcq15)).symm | exact (b2_f (Int32.not_lt.mpr hcq15)).symm) ?_
    exact e_zret dX4_isToShut_44 rfl (by rw [gv0, if_pos htx]; exact b2_nar _) (hp _ PR.rf)
set_option maxRecDepth 20000 in
theorem k_isToShut_1 (D : En) {h : AH} {a : Nat} {N : Nat → Int32} (hL : LandAt h a N) (hI : IN N) (x : Int32) (y : Int32) (z : Int32) (w : Int32) (htx : ¬ txN N 0 = []) : Sp D 2 mX4_isToShut [.ref (a), .int (x), .int (y), .int (z), .int (w)] h 0 0 (some (.int (givenR (txN N 0) 0 x y z w))) (fun h' => PR h h') := by
  obtain ⟨hLo, ⟨f1, hr1, he1⟩, ⟨f2, hr2, he2⟩, ⟨f3, hr3, he3⟩, ⟨T4, hr4, he4⟩, ⟨f5, hr5, he5⟩, ⟨f6, hr6, he6⟩, ⟨f7, hr7, he7⟩, ⟨R8, hr8, he8⟩, ⟨f9, hr9⟩, ⟨f10, hr10⟩, ⟨fG, hrG, heG⟩⟩ := id hL
  have hY := hI.1
  have hnv := hY.2.1
  have htc10 := hY.2.2.2.1
  obtain ⟨-, rr, hRn, hrr⟩ := (he8 0 (by decide)).resolve_left (fun zz => htx zz.1)
  obtain ⟨hl50, -, -, hstk⟩ := hY.2.2.2.2.2 0 (by decide)
  have hstk := hstk.resolve_left htx
  have hcd : ∀ q, q ∈ txN N 0 → q < 20011 := fun q hq => (hI.2.2.2.2 0 (by decide) q hq).1
  obtain ⟨h97, ⟨pl, fa, hq0⟩, -, -, ⟨kf, hq3⟩⟩ := id hrr
  intro post hp
  show Ev D 2 mX4_isToShut 0 [some (.ref (a)), some (.int (x)), some (.int (y)), some (.int (z)), some (.int (w)), none] [] h 0 0 post
  refine e_aload_n dX4_isToShut_0 rfl ?_
  refine e_get dX4_isToShut_1 fl_X4_65_4 hLo rfl ?_
  refine e_iconst (nI (0)) dX4_isToShut_4 (by decide) ?_
  refine e_ald (v := some rr) 0 dX4_isToShut_5 hr8 (Or.inr (Or.inl rfl)) rfl (by decide) (by decide) hRn ?_
  refine e_astore dX4_isToShut_6 (by decide) ?_
  refine e_aload dX4_isToShut_8 rfl ?_
  refine e_ifnonnull 26 dX4_isToShut_10 (by decide) ?_
  refine e_aload dX4_isToShut_26 rfl ?_
  refine e_iload_n dX4_isToShut_28 rfl ?_
  refine e_iload_n dX4_isToShut_29 rfl ?_
  refine e_iload_n dX4_isToShut_30 rfl ?_
  refine e_iload dX4_isToShut_31 rfl ?_
  obtain ⟨vq, hvq⟩ := hstk ((x)) ((y)) ((z)) ((w))
  refine c_V4i (nc := 0) (ns := 0) (mc := 0) (ms := 0) (N := mX6_workOut) dX4_isToShut_33 lv_X4_133 mo_X6_workOut (Or.inl ⟨6, _, _, hq0, rfl, rfl⟩) (Nat.le_of_ble_eq_true rfl) (Nat.le_of_ble_eq_true rfl) (by decide) (k_work D hrr hl50 hcd ((x)) ((y)) ((z)) ((w)) vq hvq) (fun h hP => ?_)
  obtain ⟨kq, hkq⟩ := hP
  have hPR := PR.pile hq0 hq3 kq
  rw [← hkq] at hPR
  have hva : valT (txN N 0) ((x)) ((y)) ((z)) ((w)) = vq := by unfold valT; rw [hvq]
  refine e_if_eq 43 dX4_isToShut_36 (by decide) (fun hcq36 => ?_) (fun hcq36 => ?_)
  · refine e_iconst (nI (0)) dX4_isToShut_43 (by decide) ?_
    refine e_top (givenR (txN N 0) 0 x y z w) (by rw [gv0, if_neg htx, hva]; first | exact (b2_f (fun zz => zz hcq36)).symm | exact (b2_t hcq36).symm) ?_
    exact e_zret dX4_isToShut_44 rfl (by rw [gv0, if_neg htx]; exact b2_nar _) (hp _ hPR)
  · refine e_iconst (nI (1)) dX4_isToShut_39 (by decide) ?_
    refine e_goto 44 dX4_isToShut_40 (by decide) ?_
    refine e_top (givenR (txN N 0) 0 x y z w) (by rw [gv0, if_neg htx, hva]; first | exact (b2_f (fun zz => zz hcq36)).symm | exact (b2_t hcq36).symm) ?_
    exact e_zret dX4_isToShut_44 rfl (by rw [gv0, if_neg htx]; exact b2_nar _) (hp _ hPR)
theorem k_isToShut (D : En) {h : AH} {a : Nat} {N : Nat → Int32} (hL : LandAt h a N) (hI : IN N) (x : Int32) (y : Int32) (z : Int32) (w : Int32) : Sp D 2 mX4_isToShut [.ref (a), .int (x), .int (y), .int (z), .int (w)] h 0 0 (some (.int (givenR (txN N 0) 0 x y z w))) (fun h' => PR h h') := by
  by_cases htx : txN N 0 = []
  · exact k_isToShut_0 D hL hI x y z w htx
  · exact k_isToShut_1 D hL hI x y z w htx
set_option maxRecDepth 20000 in
theorem k_shareToGo_0 (D : En) {h : AH} {a : Nat} {N : Nat → Int32} (hL : LandAt h a N) (hI : IN N) (x : Int32) (y : Int32) (z : Int32) (htx : txN N 1 = []) : Sp D 2 mX4_shareToGo [.ref (a), .int (x), .int (y), .int (z)] h 0 0 (some (.int (givenR (txN N 1) 1 x y z (nI 0)))) (fun h' => PR h h') := by
  obtain ⟨hLo, ⟨f1, hr1, he1⟩, ⟨f2, hr2, he2⟩, ⟨f3, hr3, he3⟩, ⟨T4, hr4, he4⟩, ⟨f5, hr5, he5⟩, ⟨f6, hr6, he6⟩, ⟨f7, hr7, he7⟩, ⟨R8, hr8, he8⟩, ⟨f9, hr9⟩, ⟨f10, hr10⟩, ⟨fG, hrG, heG⟩⟩ := id hL
  have hY := hI.1
  have hnv := hY.2.1
  have htc10 := hY.2.2.2.1
  obtain ⟨hte, hRn⟩ : txN N 1 = [] ∧ R8 1 = none := (he8 1 (by decide)).resolve_right (fun zz => zz.1 htx)
  intro post hp
  show Ev D 2 mX4_shareToGo 0 [some (.ref (a)), some (.int (x)), some (.int (y)), some (.int (z)), none, none] [] h 0 0 post
  refine e_aload_n dX4_shareToGo_0 rfl ?_
  refine e_get dX4_shareToGo_1 fl_X4_65_4 hLo rfl ?_
  refine e_iconst (nI (1)) dX4_shareToGo_4 (by decide) ?_
  refine e_ald (v := none) 1 dX4_shareToGo_5 hr8 (Or.inr (Or.inl rfl)) rfl (by decide) (by decide) hRn ?_
  refine e_astoreN dX4_shareToGo_6 (by decide) ?_
  refine e_aloadN dX4_shareToGo_8 rfl ?_
  refine e_ifnonnullN dX4_shareToGo_10 ?_
  refine e_iconst (nI (3)) dX4_shareToGo_13 (by decide) ?_
  refine e_iload_n dX4_shareToGo_14 rfl ?_
  refine e_isub dX4_shareToGo_15 ?_
  refine e_iconst (nI (4)) dX4_shareToGo_16 (by decide) ?_
  refine e_imul dX4_shareToGo_17 ?_
  refine e_iload_n dX4_shareToGo_18 rfl ?_
  refine e_isub dX4_shareToGo_19 ?_
  refine e_goto 32 dX4_shareToGo_20 (by decide) ?_
  refine e_istore dX4_shareToGo_32 (by decide) ?_
  refine e_iconst (nI (0)) dX4_shareToGo_34 (by decide) ?_
  refine e_bipush (nI (100)) dX4_shareToGo_35 (by decide) ?_
  refine e_iload dX4_shareToGo_37 rfl ?_
  refine e_mmin dX4_shareToGo_39 mw_X4_137 (by decide) (Nat.le_of_ble_eq_true rfl) ?_
  refine e_mmax dX4_shareToGo_42 mw_X4_140 (by decide) (Nat.le_of_ble_eq_true rfl) ?_
  refine e_top (givenR (txN N 1) 1 x y z (nI 0)) (by rw [gv1, if_pos htx]; rfl) ?_
  exact e_iret dX4_shareToGo_45 rfl (hp _ PR.rf)
set_option maxRecDepth 20000 in
theorem k_shareToGo_1 (D : En) {h : AH} {a : Nat} {N : Nat → Int32} (hL : LandAt h a N) (hI : IN N) (x : Int32) (y : Int32) (z : Int32) (htx : ¬ txN N 1 = []) : Sp D 2 mX4_shareToGo [.ref (a), .int (x), .int (y), .int (z)] h 0 0 (some (.int (givenR (txN N 1) 1 x y z (nI 0)))) (fun h' => PR h h') := by
  obtain ⟨hLo, ⟨f1, hr1, he1⟩, ⟨f2, hr2, he2⟩, ⟨f3, hr3, he3⟩, ⟨T4, hr4, he4⟩, ⟨f5, hr5, he5⟩, ⟨f6, hr6, he6⟩, ⟨f7, hr7, he7⟩, ⟨R8, hr8, he8⟩, ⟨f9, hr9⟩, ⟨f10, hr10⟩, ⟨fG, hrG, heG⟩⟩ := id hL
  have hY := hI.1
  have hnv := hY.2.1
  have htc10 := hY.2.2.2.1
  obtain ⟨-, rr, hRn, hrr⟩ := (he8 1 (by decide)).resolve_left (fun zz => htx zz.1)
  obtain ⟨hl50, -, -, hstk⟩ := hY.2.2.2.2.2 1 (by decide)
  have hstk := hstk.resolve_left htx
  have hcd : ∀ q, q ∈ txN N 1 → q < 20011 := fun q hq => (hI.2.2.2.2 1 (by decide) q hq).1
  obtain ⟨h97, ⟨pl, fa, hq0⟩, -, -, ⟨kf, hq3⟩⟩ := id hrr
  intro post hp
  show Ev D 2 mX4_shareToGo 0 [some (.ref (a)), some (.int (x)), some (.int (y)), some (.int (z)), none, none] [] h 0 0 post
  refine e_aload_n dX4_shareToGo_0 rfl ?_
  refine e_get dX4_shareToGo_1 fl_X4_65_4 hLo rfl ?_
  refine e_iconst (nI (1)) dX4_shareToGo_4 (by decide) ?_
  refine e_ald (v := some rr) 1 dX4_shareToGo_5 hr8 (Or.inr (Or.inl rfl)) rfl (by decide) (by decide) hRn ?_
  refine e_astore dX4_shareToGo_6 (by decide) ?_
  refine e_aload dX4_shareToGo_8 rfl ?_
  refine e_ifnonnull 23 dX4_shareToGo_10 (by decide) ?_
  refine e_aload dX4_shareToGo_23 rfl ?_
  refine e_iload_n dX4_shareToGo_25 rfl ?_
  refine e_iload_n dX4_shareToGo_26 rfl ?_
  refine e_iload_n dX4_shareToGo_27 rfl ?_
  refine e_iconst (nI (0)) dX4_shareToGo_28 (by decide) ?_
  obtain ⟨vq, hvq⟩ := hstk ((x)) ((y)) ((z)) (nI (0))
  refine c_V4i (nc := 0) (ns := 0) (mc := 0) (ms := 0) (N := mX6_workOut) dX4_shareToGo_29 lv_X4_133 mo_X6_workOut (Or.inl ⟨6, _, _, hq0, rfl, rfl⟩) (Nat.le_of_ble_eq_true rfl) (Nat.le_of_ble_eq_true rfl) (by decide) (k_work D hrr hl50 hcd ((x)) ((y)) ((z)) (nI (0)) vq hvq) (fun h hP => ?_)
  obtain ⟨kq, hkq⟩ := hP
  have hPR := PR.pile hq0 hq3 kq
  rw [← hkq] at hPR
  have hva : valT (txN N 1) ((x)) ((y)) ((z)) (nI (0)) = vq := by unfold valT; rw [hvq]
  refine e_istore dX4_shareToGo_32 (by decide) ?_
  refine e_iconst (nI (0)) dX4_shareToGo_34 (by decide) ?_
  refine e_bipush (nI (100)) dX4_shareToGo_35 (by decide) ?_
  refine e_iload dX4_shareToGo_37 rfl ?_
  refine e_mmin dX4_shareToGo_39 mw_X4_137 (by decide) (Nat.le_of_ble_eq_true rfl) ?_
  refine e_mmax dX4_shareToGo_42 mw_X4_140 (by decide) (Nat.le_of_ble_eq_true rfl) ?_
  refine e_top (givenR (txN N 1) 1 x y z (nI 0)) (by rw [gv1, if_neg htx, hva]; rfl) ?_
  exact e_iret dX4_shareToGo_45 rfl (hp _ hPR)
theorem k_shareToGo (D : En) {h : AH} {a : Nat} {N : Nat → Int32} (hL : LandAt h a N) (hI : IN N) (x : Int32) (y : Int32) (z : Int32) : Sp D 2 mX4_shareToGo [.ref (a), .int (x), .int (y), .int (z)] h 0 0 (some (.int (givenR (txN N 1) 1 x y z (nI 0)))) (fun h' => PR h h') := by
  by_cases htx : txN N 1 = []
  · exact k_shareToGo_0 D hL hI x y z htx
  · exact k_shareToGo_1 D hL hI x y z htx
set_option maxRecDepth 20000 in
theorem k_shareToCome_0 (D : En) {h : AH} {a : Nat} {N : Nat → Int32} (hL : LandAt h a N) (hI : IN N) (x : Int32) (y : Int32) (htx : txN N 2 = []) : Sp D 2 mX4_shareToCome [.ref (a), .int (x), .int (y)] h 0 0 (some (.int (givenR (txN N 2) 2 x y (nI 0) (nI 0)))) (fun h' => PR h h') := by
  obtain ⟨hLo, ⟨f1, hr1, he1⟩, ⟨f2, hr2, he2⟩, ⟨f3, hr3, he3⟩, ⟨T4, hr4, he4⟩, ⟨f5, hr5, he5⟩, ⟨f6, hr6, he6⟩, ⟨f7, hr7, he7⟩, ⟨R8, hr8, he8⟩, ⟨f9, hr9⟩, ⟨f10, hr10⟩, ⟨fG, hrG, heG⟩⟩ := id hL
  have hY := hI.1
  have hnv := hY.2.1
  have htc10 := hY.2.2.2.1
  obtain ⟨hte, hRn⟩ : txN N 2 = [] ∧ R8 2 = none := (he8 2 (by decide)).resolve_right (fun zz => zz.1 htx)
  intro post hp
  show Ev D 2 mX4_shareToCome 0 [some (.ref (a)), some (.int (x)), some (.int (y)), none, none] [] h 0 0 post
  refine e_aload_n dX4_shareToCome_0 rfl ?_
  refine e_get dX4_shareToCome_1 fl_X4_65_4 hLo rfl ?_
  refine e_iconst (nI (2)) dX4_shareToCome_4 (by decide) ?_
  refine e_ald (v := none) 2 dX4_shareToCome_5 hr8 (Or.inr (Or.inl rfl)) rfl (by decide) (by decide) hRn ?_
  refine e_astore_nN dX4_shareToCome_6 (by decide) ?_
  refine e_aload_nN dX4_shareToCome_7 rfl ?_
  refine e_ifnonnullN dX4_shareToCome_8 ?_
  refine e_iconst (nI (0)) dX4_shareToCome_11 (by decide) ?_
  refine e_goto 23 dX4_shareToCome_12 (by decide) ?_
  refine e_istore dX4_shareToCome_23 (by decide) ?_
  refine e_iconst (nI (0)) dX4_shareToCome_25 (by decide) ?_
  refine e_bipush (nI (20)) dX4_shareToCome_26 (by decide) ?_
  refine e_iload dX4_shareToCome_28 rfl ?_
  refine e_mmin dX4_shareToCome_30 mw_X4_137 (by decide) (Nat.le_of_ble_eq_true rfl) ?_
  refine e_mmax dX4_shareToCome_33 mw_X4_140 (by decide) (Nat.le_of_ble_eq_true rfl) ?_
  refine e_top (givenR (txN N 2) 2 x y (nI 0) (nI 0)) (by rw [gv2, if_pos htx]; rfl) ?_
  exact e_iret dX4_shareToCome_36 rfl (hp _ PR.rf)
set_option maxRecDepth 20000 in
theorem k_shareToCome_1 (D : En) {h : AH} {a : Nat} {N : Nat → Int32} (hL : LandAt h a N) (hI : IN N) (x : Int32) (y : Int32) (htx : ¬ txN N 2 = []) : Sp D 2 mX4_shareToCome [.ref (a), .int (x), .int (y)] h 0 0 (some (.int (givenR (txN N 2) 2 x y (nI 0) (nI 0)))) (fun h' => PR h h') := by
  obtain ⟨hLo, ⟨f1, hr1, he1⟩, ⟨f2, hr2, he2⟩, ⟨f3, hr3, he3⟩, ⟨T4, hr4, he4⟩, ⟨f5, hr5, he5⟩, ⟨f6, hr6, he6⟩, ⟨f7, hr7, he7⟩, ⟨R8, hr8, he8⟩, ⟨f9, hr9⟩, ⟨f10, hr10⟩, ⟨fG, hrG, heG⟩⟩ := id hL
  have hY := hI.1
  have hnv := hY.2.1
  have htc10 := hY.2.2.2.1
  obtain ⟨-, rr, hRn, hrr⟩ := (he8 2 (by decide)).resolve_left (fun zz => htx zz.1)
  obtain ⟨hl50, -, -, hstk⟩ := hY.2.2.2.2.2 2 (by decide)
  have hstk := hstk.resolve_left htx
  have hcd : ∀ q, q ∈ txN N 2 → q < 20011 := fun q hq => (hI.2.2.2.2 2 (by decide) q hq).1
  obtain ⟨h97, ⟨pl, fa, hq0⟩, -, -, ⟨kf, hq3⟩⟩ := id hrr
  intro post hp
  show Ev D 2 mX4_shareToCome 0 [some (.ref (a)), some (.int (x)), some (.int (y)), none, none] [] h 0 0 post
  refine e_aload_n dX4_shareToCome_0 rfl ?_
  refine e_get dX4_shareToCome_1 fl_X4_65_4 hLo rfl ?_
  refine e_iconst (nI (2)) dX4_shareToCome_4 (by decide) ?_
  refine e_ald (v := some rr) 2 dX4_shareToCome_5 hr8 (Or.inr (Or.inl rfl)) rfl (by decide) (by decide) hRn ?_
  refine e_astore_n dX4_shareToCome_6 (by decide) ?_
  refine e_aload_n dX4_shareToCome_7 rfl ?_
  refine e_ifnonnull 15 dX4_shareToCome_8 (by decide) ?_
  refine e_aload_n dX4_shareToCome_15 rfl ?_
  refine e_iload_n dX4_shareToCome_16 rfl ?_
  refine e_iload_n dX4_shareToCome_17 rfl ?_
  refine e_iconst (nI (0)) dX4_shareToCome_18 (by decide) ?_
  refine e_iconst (nI (0)) dX4_shareToCome_19 (by decide) ?_
  obtain ⟨vq, hvq⟩ := hstk ((x)) ((y)) (nI (0)) (nI (0))
  refine c_V4i (nc := 0) (ns := 0) (mc := 0) (ms := 0) (N := mX6_workOut) dX4_shareToCome_20 lv_X4_133 mo_X6_workOut (Or.inl ⟨6, _, _, hq0, rfl, rfl⟩) (Nat.le_of_ble_eq_true rfl) (Nat.le_of_ble_eq_true rfl) (by decide) (k_work D hrr hl50 hcd ((x)) ((y)) (nI (0)) (nI (0)) vq hvq) (fun h hP => ?_)
  obtain ⟨kq, hkq⟩ := hP
  have hPR := PR.pile hq0 hq3 kq
  rw [← hkq] at hPR
  have hva : valT (txN N 2) ((x)) ((y)) (nI (0)) (nI (0)) = vq := by unfold valT; rw [hvq]
  refine e_istore dX4_shareToCome_23 (by decide) ?_
  refine e_iconst (nI (0)) dX4_shareToCome_25 (by decide) ?_
  refine e_bipush (nI (20)) dX4_shareToCome_26 (by decide) ?_
  refine e_iload dX4_shareToCome_28 rfl ?_
  refine e_mmin dX4_shareToCome_30 mw_X4_137 (by decide) (Nat.le_of_ble_eq_true rfl) ?_
  refine e_mmax dX4_shareToCome_33 mw_X4_140 (by decide) (Nat.le_of_ble_eq_true rfl) ?_
  refine e_top (givenR (txN N 2) 2 x y (nI 0) (nI 0)) (by rw [gv2, if_neg htx, hva]; rfl) ?_
  exact e_iret dX4_shareToCome_36 rfl (hp _ hPR)
theorem k_shareToCome (D : En) {h : AH} {a : Nat} {N : Nat → Int32} (hL : LandAt h a N) (hI : IN N) (x : Int32) (y : Int32) : Sp D 2 mX4_shareToCome [.ref (a), .int (x), .int (y)] h 0 0 (some (.int (givenR (txN N 2) 2 x y (nI 0) (nI 0)))) (fun h' => PR h h') := by
  by_cases htx : txN N 2 = []
  · exact k_shareToCome_0 D hL hI x y htx
  · exact k_shareToCome_1 D hL hI x y htx
set_option maxRecDepth 20000 in
theorem kl_mostComfort (D : En) {h : AH} {a : Nat} {N : Nat → Int32} (hL : LandAt h a N) (hI : IN N) {post : Option Value → AH → Prop} {C : Nat → Int32} (hC : Row0 h (a + 10) 8 C) (hp : ∀ h', h' = h → post (some (.int (nI (havW C (nvN N))))) h') : ∀ (j : Nat) (v b : Nat), (v + j = (if nvN N = 0 then 1 else nvN N)) → (1 ≤ v) → (b = havW C v) → Ev D 0 mX4_mostComfort 4 [some (.ref (a)), some (.int (nI (b))), some (.int (nI (v)))] [] h 0 0 post := by
  obtain ⟨hLo, ⟨f1, hr1, he1⟩, ⟨f2, hr2, he2⟩, ⟨f3, hr3, he3⟩, ⟨T4, hr4, he4⟩, ⟨f5, hr5, he5⟩, ⟨f6, hr6, he6⟩, ⟨f7, hr7, he7⟩, ⟨R8, hr8, he8⟩, ⟨f9, hr9⟩, ⟨f10, hr10⟩, ⟨fG, hrG, heG⟩⟩ := id hL
  have hY := hI.1
  have hnv := hY.2.1
  have htc10 := hY.2.2.2.1
  intro j
  induction j with
  | zero =>
    intro v b hm h1v hb
    have hif : (if nvN N = 0 then 1 else nvN N) ≤ 8 := by split <;> omega
    refine e_iload_n dX4_mostComfort_4 rfl ?_
    refine e_aload_n dX4_mostComfort_5 rfl ?_
    refine e_get dX4_mostComfort_6 fl_X4_18_4 hLo rfl ?_
    refine e_top (nI (nvN N)) hY.1 ?_
    refine e_icmp_geN 35 dX4_mostComfort_9 (by decide) (by omega) (by omega) (fun hcq9 => ?_) (fun hcq9 => absurd hcq9 (by split at hm <;> omega))
    refine e_iload_n dX4_mostComfort_35 rfl ?_
    refine e_top (nI (havW C (nvN N))) (by
      congr 1
      rcases Nat.eq_zero_or_pos (nvN N) with z | z
      · rw [if_pos z] at hm
        rw [hb, z, show v = 1 by omega]; rfl
      · rw [if_neg (by omega)] at hm
        rw [hb, show v = nvN N by omega]) ?_
    exact e_iret dX4_mostComfort_36 rfl (hp _ rfl)
  | succ j ih =>
    intro v b hm h1v hb
    have hif : (if nvN N = 0 then 1 else nvN N) ≤ 8 := by split <;> omega
    refine e_iload_n dX4_mostComfort_4 rfl ?_
    refine e_aload_n dX4_mostComfort_5 rfl ?_
    refine e_get dX4_mostComfort_6 fl_X4_18_4 hLo rfl ?_
    refine e_top (nI (nvN N)) hY.1 ?_
    refine e_icmp_geN 35 dX4_mostComfort_9 (by decide) (by omega) (by omega) (fun hcq9 => absurd hcq9 (by split at hm <;> omega)) (fun hcq9 => ?_)
    have hb8 := havW_lt C v h1v
    refine e_aload_n dX4_mostComfort_12 rfl ?_
    refine e_get dX4_mostComfort_13 fl_X4_69_4 hLo rfl ?_
    refine e_iload_n dX4_mostComfort_16 rfl ?_
    refine e_ild (v) ((C (v))) dX4_mostComfort_17 hC rfl (by omega) (by decide) rfl ?_
    refine e_aload_n dX4_mostComfort_18 rfl ?_
    refine e_get dX4_mostComfort_19 fl_X4_69_4 hLo rfl ?_
    refine e_iload_n dX4_mostComfort_22 rfl ?_
    refine e_ild (b) ((C (b))) dX4_mostComfort_23 hC rfl (by omega) (by decide) rfl ?_
    refine e_icmp_le 29 dX4_mostComfort_24 (by decide) (fun hcq24 => ?_) (fun hcq24 => ?_)
    · refine e_iincN (v + 1) dX4_mostComfort_29 rfl (by decide) (nI_add _ _) ?_
      refine e_goto 4 dX4_mostComfort_32 (by decide) ?_
      first
        | exact ih (v + 1) v (by omega) (by omega) (by rw [havW, if_neg (by omega), ← hb, if_pos (Int32.not_le.mp hcq24)])
        | exact ih (v + 1) b (by omega) (by omega) (by rw [havW, if_neg (by omega), ← hb, if_neg (Int32.not_lt.mpr hcq24)])
    · refine e_iload_n dX4_mostComfort_27 rfl ?_
      refine e_istore_n dX4_mostComfort_28 (by decide) ?_
      refine e_iincN (v + 1) dX4_mostComfort_29 rfl (by decide) (nI_add _ _) ?_
      refine e_goto 4 dX4_mostComfort_32 (by decide) ?_
      first
        | exact ih (v + 1) v (by omega) (by omega) (by rw [havW, if_neg (by omega), ← hb, if_pos (Int32.not_le.mp hcq24)])
        | exact ih (v + 1) b (by omega) (by omega) (by rw [havW, if_neg (by omega), ← hb, if_neg (Int32.not_lt.mpr hcq24)])
set_option maxRecDepth 20000 in
theorem k_mostComfort (D : En) {h : AH} {a : Nat} {N : Nat → Int32} (hL : LandAt h a N) (hI : IN N) {C : Nat → Int32} (hC : Row0 h (a + 10) 8 C) : Sp D 0 mX4_mostComfort [.ref (a)] h 0 0 (some (.int (nI (havW C (nvN N))))) (fun h' => h' = h) := by
  obtain ⟨hLo, ⟨f1, hr1, he1⟩, ⟨f2, hr2, he2⟩, ⟨f3, hr3, he3⟩, ⟨T4, hr4, he4⟩, ⟨f5, hr5, he5⟩, ⟨f6, hr6, he6⟩, ⟨f7, hr7, he7⟩, ⟨R8, hr8, he8⟩, ⟨f9, hr9⟩, ⟨f10, hr10⟩, ⟨fG, hrG, heG⟩⟩ := id hL
  have hY := hI.1
  have hnv := hY.2.1
  have htc10 := hY.2.2.2.1
  intro post hp
  show Ev D 0 mX4_mostComfort 0 [some (.ref (a)), none, none] [] h 0 0 post
  refine e_iconst (nI (0)) dX4_mostComfort_0 (by decide) ?_
  refine e_istore_n dX4_mostComfort_1 (by decide) ?_
  refine e_iconst (nI (1)) dX4_mostComfort_2 (by decide) ?_
  refine e_istore_n dX4_mostComfort_3 (by decide) ?_
  exact kl_mostComfort D hL hI hC hp ((if nvN N = 0 then 1 else nvN N) - 1) 1 0 (by split <;> omega) (by omega) rfl
set_option maxRecDepth 20000 in
theorem kl_weigh (D : En) {h : AH} {a : Nat} {N : Nat → Int32} (hL : LandAt h a N) (hI : IN N) {post : Option Value → AH → Prop} (ha : a + 11 < 101) (hp : ∀ h', (∃ C, h' = h.set (a + 10) (.inl (0, 8, .inl C)) ∧ ∀ w, w < nvN N → C w = cfN N w) → post none h') : ∀ (j : Nat) (v : Nat) (C : Nat → Int32), (v + j = nvN N) → (∀ w, w < v → C w = cfN N w) → Ev D 5 mX4_weighComforts 2 [some (.ref (a)), some (.int (nI (v)))] [] (h.set (a + 10) (.inl (0, 8, .inl C))) 0 0 post := by
  obtain ⟨hLo, ⟨f1, hr1, he1⟩, ⟨f2, hr2, he2⟩, ⟨f3, hr3, he3⟩, ⟨T4, hr4, he4⟩, ⟨f5, hr5, he5⟩, ⟨f6, hr6, he6⟩, ⟨f7, hr7, he7⟩, ⟨R8, hr8, he8⟩, ⟨f9, hr9⟩, ⟨f10, hr10⟩, ⟨fG, hrG, heG⟩⟩ := id hL
  have hY := hI.1
  have hnv := hY.2.1
  have htc10 := hY.2.2.2.1
  intro j
  induction j with
  | zero =>
    intro v C hm hCe
    have hL0 := hL
    have hL := hL.w9 hI ha C
    obtain ⟨hLo, -, -, -, -, -, -, -, -, -, -⟩ := id hL
    have hr9 : Row0 (h.set (a + 10) (.inl (0, 8, .inl C))) (a + 10) 8 C := getself hr9
    refine e_iload_n dX4_weighComforts_2 rfl ?_
    refine e_aload_n dX4_weighComforts_3 rfl ?_
    refine e_get dX4_weighComforts_4 fl_X4_18_4 hLo rfl ?_
    refine e_top (nI (nvN N)) hY.1 ?_
    refine e_icmp_geN 27 dX4_weighComforts_7 (by decide) (by omega) (by omega) (fun hcq7 => ?_) (fun hcq7 => absurd hcq7 (by omega))
    exact e_vret dX4_weighComforts_27 rfl (hp _ ⟨C, rfl, fun w hw => hCe w (by omega)⟩)
  | succ j ih =>
    intro v C hm hCe
    have hL0 := hL
    have hL := hL.w9 hI ha C
    obtain ⟨hLo, -, -, -, -, -, -, -, -, -, -⟩ := id hL
    have hr9 : Row0 (h.set (a + 10) (.inl (0, 8, .inl C))) (a + 10) 8 C := getself hr9
    refine e_iload_n dX4_weighComforts_2 rfl ?_
    refine e_aload_n dX4_weighComforts_3 rfl ?_
    refine e_get dX4_weighComforts_4 fl_X4_18_4 hLo rfl ?_
    refine e_top (nI (nvN N)) hY.1 ?_
    refine e_icmp_geN 27 dX4_weighComforts_7 (by decide) (by omega) (by omega) (fun hcq7 => absurd hcq7 (by omega)) (fun hcq7 => ?_)
    refine e_aload_n dX4_weighComforts_10 rfl ?_
    refine e_get dX4_weighComforts_11 fl_X4_69_4 hLo rfl ?_
    refine e_iload_n dX4_weighComforts_14 rfl ?_
    refine e_aload_n dX4_weighComforts_15 rfl ?_
    refine e_iload_n dX4_weighComforts_16 rfl ?_
    refine c_V1iR (N := mX4_comfortOf) dX4_weighComforts_17 lv_X4_130 mo_X4_comfortOf hL.cn (Nat.le_of_ble_eq_true rfl) (Nat.le_of_ble_eq_true rfl) (by decide) (k_comfortOf D hL hI (v) (by omega)) ?_
    refine e_ist (v) dX4_weighComforts_20 hr9 rfl (by omega) (by decide) ?_
    rw [set_set]
    refine e_iincN (v + 1) dX4_weighComforts_21 rfl (by decide) (nI_add _ _) ?_
    refine e_goto 2 dX4_weighComforts_24 (by decide) ?_
    exact ih (v + 1) _ (by omega) (fun w hw => by
      by_cases e9 : w = v
      · rw [e9, pk_us]
      · rw [pk_un e9]; exact hCe w (by omega))
set_option maxRecDepth 20000 in
theorem k_weigh (D : En) {h : AH} {a : Nat} {N : Nat → Int32} (hL : LandAt h a N) (hI : IN N) (ha : a + 11 < 101) : Sp D 5 mX4_weighComforts [.ref (a)] h 0 0 (none) (fun h' => ∃ C, h' = h.set (a + 10) (.inl (0, 8, .inl C)) ∧ ∀ w, w < nvN N → C w = cfN N w) := by
  obtain ⟨hLo, ⟨f1, hr1, he1⟩, ⟨f2, hr2, he2⟩, ⟨f3, hr3, he3⟩, ⟨T4, hr4, he4⟩, ⟨f5, hr5, he5⟩, ⟨f6, hr6, he6⟩, ⟨f7, hr7, he7⟩, ⟨R8, hr8, he8⟩, ⟨f9, hr9⟩, ⟨f10, hr10⟩, ⟨fG, hrG, heG⟩⟩ := id hL
  have hY := hI.1
  have hnv := hY.2.1
  have htc10 := hY.2.2.2.1
  intro post hp
  show Ev D 5 mX4_weighComforts 0 [some (.ref (a)), none] [] h 0 0 post
  refine e_iconst (nI (0)) dX4_weighComforts_0 (by decide) ?_
  refine e_istore_n dX4_weighComforts_1 (by decide) ?_
  have ih9 := kl_weigh D hL hI ha hp (nvN N) 0 f9 (by omega) (fun w hw => absurd hw (Nat.not_lt_zero w))
  rw [set_self hr9] at ih9
  exact ih9
set_option maxRecDepth 20000 in
theorem k_setOpen0 (D : En) {h : AH} {a : Nat} {N : Nat → Int32} (hL : LandAt h a N) (hI : IN N) (ha : a + 11 < 101) (t : Nat) (ht : t < tcN N) : Sp D 0 mX4_setOpen [.ref (a), .int (nI (t)), .int (nI (0))] h 0 0 (none) (fun h' => ∃ y, h' = h.set a (.inr (4, (lnF a N).set 4 (.int y))) ∧ y = opB (upd N (112 + 7 * t + 5) (nI 0))) := by
  obtain ⟨hLo, ⟨f1, hr1, he1⟩, ⟨f2, hr2, he2⟩, ⟨f3, hr3, he3⟩, ⟨T4, hr4, he4⟩, ⟨f5, hr5, he5⟩, ⟨f6, hr6, he6⟩, ⟨f7, hr7, he7⟩, ⟨R8, hr8, he8⟩, ⟨f9, hr9⟩, ⟨f10, hr10⟩, ⟨fG, hrG, heG⟩⟩ := id hL
  have hY := hI.1
  have hnv := hY.2.1
  have htc10 := hY.2.2.2.1
  intro post hp
  show Ev D 0 mX4_setOpen 0 [some (.ref (a)), some (.int (nI (t))), some (.int (nI (0)))] [] h 0 0 post
  refine e_aload_n dX4_setOpen_0 rfl ?_
  refine e_iload_n dX4_setOpen_1 rfl ?_
  refine e_if_eqN 16 dX4_setOpen_2 (by decide) (by omega) (fun hcq2 => ?_) (fun hcq2 => absurd hcq2 (by decide))
  refine e_aload_n dX4_setOpen_16 rfl ?_
  refine e_get dX4_setOpen_17 fl_X4_24_4 hLo rfl ?_
  refine e_iconst (nI (1)) dX4_setOpen_20 (by decide) ?_
  refine e_iload_n dX4_setOpen_21 rfl ?_
  refine e_ishl dX4_setOpen_22 ?_
  refine e_iconst (((-1))) dX4_setOpen_23 (by decide) ?_
  refine e_ixor dX4_setOpen_24 ?_
  refine e_iand dX4_setOpen_25 ?_
  refine e_put dX4_setOpen_26 fl_X4_24_4 ft_4 (fun q hq => Or.inl (by cases hq; rfl)) hLo (by show _ < 16; decide) rfl rfl ?_
  exact e_vret dX4_setOpen_29 rfl (hp _ ⟨_, rfl, (opB_set htc10 ht).2.symm⟩)
set_option maxRecDepth 20000 in
theorem k_setOpen1 (D : En) {h : AH} {a : Nat} {N : Nat → Int32} (hL : LandAt h a N) (hI : IN N) (ha : a + 11 < 101) (t : Nat) (ht : t < tcN N) : Sp D 0 mX4_setOpen [.ref (a), .int (nI (t)), .int (nI (1))] h 0 0 (none) (fun h' => ∃ y, h' = h.set a (.inr (4, (lnF a N).set 4 (.int y))) ∧ y = opB (upd N (112 + 7 * t + 5) (nI 1))) := by
  obtain ⟨hLo, ⟨f1, hr1, he1⟩, ⟨f2, hr2, he2⟩, ⟨f3, hr3, he3⟩, ⟨T4, hr4, he4⟩, ⟨f5, hr5, he5⟩, ⟨f6, hr6, he6⟩, ⟨f7, hr7, he7⟩, ⟨R8, hr8, he8⟩, ⟨f9, hr9⟩, ⟨f10, hr10⟩, ⟨fG, hrG, heG⟩⟩ := id hL
  have hY := hI.1
  have hnv := hY.2.1
  have htc10 := hY.2.2.2.1
  intro post hp
  show Ev D 0 mX4_setOpen 0 [some (.ref (a)), some (.int (nI (t))), some (.int (nI (1)))] [] h 0 0 post
  refine e_aload_n dX4_setOpen_0 rfl ?_
  refine e_iload_n dX4_setOpen_1 rfl ?_
  refine e_if_eqN 16 dX4_setOpen_2 (by decide) (by omega) (fun hcq2 => absurd hcq2 (by decide)) (fun hcq2 => ?_)
  refine e_aload_n dX4_setOpen_5 rfl ?_
  refine e_get dX4_setOpen_6 fl_X4_24_4 hLo rfl ?_
  refine e_iconst (nI (1)) dX4_setOpen_9 (by decide) ?_
  refine e_iload_n dX4_setOpen_10 rfl ?_
  refine e_ishl dX4_setOpen_11 ?_
  refine e_ior dX4_setOpen_12 ?_
  refine e_goto 26 dX4_setOpen_13 (by decide) ?_
  refine e_put dX4_setOpen_26 fl_X4_24_4 ft_4 (fun q hq => Or.inl (by cases hq; rfl)) hLo (by show _ < 16; decide) rfl rfl ?_
  exact e_vret dX4_setOpen_29 rfl (hp _ ⟨_, rfl, (opB_set htc10 ht).1.symm⟩)
set_option maxRecDepth 20000 in
theorem k_held (D : En) {h : AH} (x : Int32) : Sp D 1 mX4_held [.int x] h 0 0 (some (.int (minI (nI 99999) x))) (fun h' => h' = h) := by
  intro post hp
  show Ev D 1 mX4_held 0 [some (.int x)] [] h 0 0 post
  refine e_ldc dX4_held_0 w_892 ?_
  refine e_top (nI 99999) (by decide) ?_
  refine e_iload_n dX4_held_2 rfl ?_
  refine e_mmin dX4_held_3 mw_X4_137 (by decide) (Nat.le_of_ble_eq_true rfl) ?_
  exact e_iret dX4_held_6 rfl (hp _ rfl)
