theorem age_1 {x y z : Int32} {p b c : Nat} (hx : x = nI p) (hy : y = nI b) (hz : z = nI c) (hp : p ≤ 99999) (hb : b ≤ 99999) (hc : c ≤ p) : minI (nI 99999) (x + y - z) = chg x (y - z).toInt64 := by
  have e : x + y - z = x + (y - z) := by rw [Int32.sub_eq_add_neg, Int32.sub_eq_add_neg, Int32.add_assoc]
  rw [e]
  refine (chg_of (p := (p : Int)) (d := (b : Int) - c) (by rw [hx]; exact nI_toInt (by omega)) ?_ (by omega) (by omega) (by omega) (by omega)).symm
  exact toI_sub (by rw [hy]; exact nI_toInt (by omega)) (by rw [hz]; exact nI_toInt (by omega)) (by omega) (by omega)
def ageX (N : Nat → Int32) (v w : Nat) : Int32 := if w = 0 then N (16 + 4 * v + 1 + 0) + N (16 + 4 * v + 1 + 1) * N 7 / nI 100 - N (16 + 4 * v + 1 + 0) * N 8 / nI 100 else if w = 1 then N (16 + 4 * v + 1 + 1) + N (16 + 4 * v + 1 + 0) * N 8 / nI 100 - N (16 + 4 * v + 1 + 1) * N 9 / nI 100 else N (16 + 4 * v + 1 + 2) + N (16 + 4 * v + 1 + 1) * N 9 / nI 100 - N (16 + 4 * v + 1 + 2) * N 10 / nI 100
theorem age_eq {N : Nat → Int32} (hP : PW N) {v : Nat} (hv : v < 8) : minI (nI 99999) (ageX N v 0) = chg (N (16 + 4 * v + 1 + 0)) (N (16 + 4 * v + 1 + 1) * N 7 / nI 100 - N (16 + 4 * v + 1 + 0) * N 8 / nI 100).toInt64 ∧ minI (nI 99999) (ageX N v 1) = chg (N (16 + 4 * v + 1 + 1)) (N (16 + 4 * v + 1 + 0) * N 8 / nI 100 - N (16 + 4 * v + 1 + 1) * N 9 / nI 100).toInt64 ∧ minI (nI 99999) (ageX N v 2) = chg (N (16 + 4 * v + 1 + 2)) (N (16 + 4 * v + 1 + 1) * N 9 / nI 100 - N (16 + 4 * v + 1 + 2) * N 10 / nI 100).toInt64 := by
  obtain ⟨y, hy, hy2⟩ := rg_toI (hP.1 v hv 0 (by decide)) (by decide)
  obtain ⟨g, hg, hg2⟩ := rg_toI (hP.1 v hv 1 (by decide)) (by decide)
  obtain ⟨u, hu, hu2⟩ := rg_toI (hP.1 v hv 2 (by decide)) (by decide)
  obtain ⟨r0, hr0, hr02⟩ := rg_toI (hP.2.2.2.2 0 (by decide)) (by decide)
  obtain ⟨r1, hr1, hr12⟩ := rg_toI (hP.2.2.2.2 1 (by decide)) (by decide)
  obtain ⟨r2, hr2, hr22⟩ := rg_toI (hP.2.2.2.2 2 (by decide)) (by decide)
  obtain ⟨r3, hr3, hr32⟩ := rg_toI (hP.2.2.2.2 3 (by decide)) (by decide)
  obtain ⟨b1, b2'⟩ := pct hg hr0 (by omega) (by omega)
  obtain ⟨a1, a2⟩ := pct hy hr1 (by omega) (by omega)
  obtain ⟨o1, o2⟩ := pct hg hr2 (by omega) (by omega)
  obtain ⟨d1, d2⟩ := pct hu hr3 (by omega) (by omega)
  exact ⟨age_1 hy b1 a1 hy2 (by omega) a2, age_1 hg a1 o1 hg2 (by omega) o2, age_1 hu o1 d1 hu2 (by omega) d2⟩
theorem lvW_eq {N : Nat → Int32} (hP : PW N) {v : Nat} (hv : v < 8) : upd (upd (upd N (16 + 4 * v + 1 + 0) (minI (nI 99999) (ageX N v 0))) (16 + 4 * v + 1 + 1) (minI (nI 99999) (ageX N v 1))) (16 + 4 * v + 1 + 2) (minI (nI 99999) (ageX N v 2)) = lvW N v := by
  obtain ⟨e0, e1, e2⟩ := age_eq hP hv
  have f1 : lv1 N v (16 + 4 * v + 1 + 1) = N (16 + 4 * v + 1 + 1) := pk_un (by omega)
  have f2 : lv2 N v (16 + 4 * v + 1 + 2) = N (16 + 4 * v + 1 + 2) := by unfold lv2 lv1; rw [pk_un (by omega), pk_un (by omega)]
  have f3 : lv2 N v 10 = N 10 := by unfold lv2 lv1; rw [pk_un (by omega), pk_un (by omega)]
  unfold lvW
  rw [f2, f3, e2]
  unfold lv2
  rw [f1, e1]
  unfold lv1
  rw [e0]
set_option maxRecDepth 20000 in
theorem kl_age (D : En) {a : Nat} {post : Option Value → AH → Prop} {N0 N1 : Nat → Int32} {h0 : AH} (hp : ∀ h', LB h' a (lvs N1 (nvN N0)) → IN (lvs N1 (nvN N0)) → FY a h0 h' → JW (lvs N1 (nvN N0)) N0 → post none h') : ∀ (j : Nat) (v : Nat) (h : AH) (N : Nat → Int32), (v + j = nvN N0) → (LB h a N) → (IN N) → (FY a h0 h) → (JW N N0) → (N = lvs N1 v) → Ev D 2 mX4_letAge 2 [some (.ref (a)), some (.int (nI (v))), none, none, none, none, none, none, none, none] [] h 0 0 post := by
  intro j
  induction j with
  | zero =>
    intro v h N hm hL hI hF hJ hN
    obtain ⟨hLo, ⟨f1, hr1, he1⟩, ⟨f2, hr2, he2⟩, ⟨f3, hr3, he3⟩, ⟨T4, hr4, he4⟩, ⟨f5, hr5, he5⟩, ⟨f6, hr6, he6⟩, ⟨f7, hr7, he7⟩, ⟨R8, hr8, he8⟩, ⟨f9, hr9⟩, ⟨f10, hr10⟩, ⟨fG, hrG, heG⟩⟩ := id hL.1
    have hY := hI.1
    have hnv := hY.2.1
    have htc10 := hY.2.2.2.1
    have hnvE := hJ.nv
    have ha97 := hL.2.2
    refine e_iload_n dX4_letAge_2 rfl ?_
    refine e_aload_n dX4_letAge_3 rfl ?_
    refine e_get dX4_letAge_4 fl_X4_18_4 hLo rfl ?_
    refine e_top (nI (nvN N)) hY.1 ?_
    refine e_icmp_geN 160 dX4_letAge_7 (by decide) (by omega) (by omega) (fun hcq7 => ?_) (fun hcq7 => absurd hcq7 (by omega))
    rw [show v = nvN N0 by omega] at hN
    exact e_vret dX4_letAge_160 rfl (hp h (by rw [← hN]; exact hL) (by rw [← hN]; exact hI) hF (by rw [← hN]; exact hJ))
  | succ j ih =>
    intro v h N hm hL hI hF hJ hN
    obtain ⟨hLo, ⟨f1, hr1, he1⟩, ⟨f2, hr2, he2⟩, ⟨f3, hr3, he3⟩, ⟨T4, hr4, he4⟩, ⟨f5, hr5, he5⟩, ⟨f6, hr6, he6⟩, ⟨f7, hr7, he7⟩, ⟨R8, hr8, he8⟩, ⟨f9, hr9⟩, ⟨f10, hr10⟩, ⟨fG, hrG, heG⟩⟩ := id hL.1
    have hY := hI.1
    have hnv := hY.2.1
    have htc10 := hY.2.2.2.1
    have hnvE := hJ.nv
    have ha97 := hL.2.2
    refine e_iload_n dX4_letAge_2 rfl ?_
    refine e_aload_n dX4_letAge_3 rfl ?_
    refine e_get dX4_letAge_4 fl_X4_18_4 hLo rfl ?_
    refine e_top (nI (nvN N)) hY.1 ?_
    refine e_icmp_geN 160 dX4_letAge_7 (by decide) (by omega) (by omega) (fun hcq7 => absurd hcq7 (by omega)) (fun hcq7 => ?_)
    have hag := age_eq hI.2.2.2.1 (v := v) (by omega)
    have hPW := hI.2.2.2.1
    refine e_iconst (nI (3)) dX4_letAge_10 (by decide) ?_
    refine e_iload_n dX4_letAge_11 rfl ?_
    refine e_imulN dX4_letAge_12 ?_
    refine e_istore_n dX4_letAge_13 (by decide) ?_
    show Ev D 2 mX4_letAge 14 [some (.ref (a)), some (.int (nI (v))), some (.int (nI (3 * v))), none, none, none, none, none, none, none] [] h 0 0 post
    refine e_aload_n dX4_letAge_14 rfl ?_
    refine e_get dX4_letAge_15 fl_X4_31_4 hLo rfl ?_
    refine e_iload_n dX4_letAge_18 rfl ?_
    refine e_iconst (nI (0)) dX4_letAge_19 (by decide) ?_
    refine e_iaddN dX4_letAge_20 ?_
    refine e_ild ((3 * v) + 0) ((N (16 + 4 * v + 1 + 0))) dX4_letAge_21 hr2 rfl (by omega) (by decide) (he2 _ (by omega) _ (by omega)) ?_
    refine e_istore_n dX4_letAge_22 (by decide) ?_
    show Ev D 2 mX4_letAge 23 [some (.ref (a)), some (.int (nI (v))), some (.int (nI (3 * v))), some (.int (N (16 + 4 * v + 1 + 0))), none, none, none, none, none, none] [] h 0 0 post
    refine e_aload_n dX4_letAge_23 rfl ?_
    refine e_get dX4_letAge_24 fl_X4_31_4 hLo rfl ?_
    refine e_iload_n dX4_letAge_27 rfl ?_
    refine e_iconst (nI (1)) dX4_letAge_28 (by decide) ?_
    refine e_iaddN dX4_letAge_29 ?_
    refine e_ild ((3 * v) + 1) ((N (16 + 4 * v + 1 + 1))) dX4_letAge_30 hr2 rfl (by omega) (by decide) (he2 _ (by omega) _ (by omega)) ?_
    refine e_istore dX4_letAge_31 (by decide) ?_
    show Ev D 2 mX4_letAge 33 [some (.ref (a)), some (.int (nI (v))), some (.int (nI (3 * v))), some (.int (N (16 + 4 * v + 1 + 0))), some (.int (N (16 + 4 * v + 1 + 1))), none, none, none, none, none] [] h 0 0 post
    refine e_aload_n dX4_letAge_33 rfl ?_
    refine e_get dX4_letAge_34 fl_X4_31_4 hLo rfl ?_
    refine e_iload_n dX4_letAge_37 rfl ?_
    refine e_iconst (nI (2)) dX4_letAge_38 (by decide) ?_
    refine e_iaddN dX4_letAge_39 ?_
    refine e_ild ((3 * v) + 2) ((N (16 + 4 * v + 1 + 2))) dX4_letAge_40 hr2 rfl (by omega) (by decide) (he2 _ (by omega) _ (by omega)) ?_
    refine e_istore dX4_letAge_41 (by decide) ?_
    show Ev D 2 mX4_letAge 43 [some (.ref (a)), some (.int (nI (v))), some (.int (nI (3 * v))), some (.int (N (16 + 4 * v + 1 + 0))), some (.int (N (16 + 4 * v + 1 + 1))), some (.int (N (16 + 4 * v + 1 + 2))), none, none, none, none] [] h 0 0 post
    refine e_iload dX4_letAge_43 rfl ?_
    refine e_aload_n dX4_letAge_45 rfl ?_
    refine e_get dX4_letAge_46 fl_X4_60_4 hLo rfl ?_
    refine e_iconst (nI (0)) dX4_letAge_49 (by decide) ?_
    refine e_ild (0) ((N (7 + 0))) dX4_letAge_50 hr7 rfl (by omega) (by decide) (he7 _ (by omega)) ?_
    refine e_imul dX4_letAge_51 ?_
    refine e_bipush (nI (100)) dX4_letAge_52 (by decide) ?_
    refine e_idiv dX4_letAge_54 (by decide) ?_
    refine e_istore dX4_letAge_55 (by decide) ?_
    show Ev D 2 mX4_letAge 57 [some (.ref (a)), some (.int (nI (v))), some (.int (nI (3 * v))), some (.int (N (16 + 4 * v + 1 + 0))), some (.int (N (16 + 4 * v + 1 + 1))), some (.int (N (16 + 4 * v + 1 + 2))), some (.int (((N (16 + 4 * v + 1 + 1)) * (N (7 + 0))) / nI (100))), none, none, none] [] h 0 0 post
    refine e_iload_n dX4_letAge_57 rfl ?_
    refine e_aload_n dX4_letAge_58 rfl ?_
    refine e_get dX4_letAge_59 fl_X4_60_4 hLo rfl ?_
    refine e_iconst (nI (1)) dX4_letAge_62 (by decide) ?_
    refine e_ild (1) ((N (7 + 1))) dX4_letAge_63 hr7 rfl (by omega) (by decide) (he7 _ (by omega)) ?_
    refine e_imul dX4_letAge_64 ?_
    refine e_bipush (nI (100)) dX4_letAge_65 (by decide) ?_
    refine e_idiv dX4_letAge_67 (by decide) ?_
    refine e_istore dX4_letAge_68 (by decide) ?_
    show Ev D 2 mX4_letAge 70 [some (.ref (a)), some (.int (nI (v))), some (.int (nI (3 * v))), some (.int (N (16 + 4 * v + 1 + 0))), some (.int (N (16 + 4 * v + 1 + 1))), some (.int (N (16 + 4 * v + 1 + 2))), some (.int (((N (16 + 4 * v + 1 + 1)) * (N (7 + 0))) / nI (100))), some (.int (((N (16 + 4 * v + 1 + 0)) * (N (7 + 1))) / nI (100))), none, none] [] h 0 0 post
    refine e_iload dX4_letAge_70 rfl ?_
    refine e_aload_n dX4_letAge_72 rfl ?_
    refine e_get dX4_letAge_73 fl_X4_60_4 hLo rfl ?_
    refine e_iconst (nI (2)) dX4_letAge_76 (by decide) ?_
    refine e_ild (2) ((N (7 + 2))) dX4_letAge_77 hr7 rfl (by omega) (by decide) (he7 _ (by omega)) ?_
    refine e_imul dX4_letAge_78 ?_
    refine e_bipush (nI (100)) dX4_letAge_79 (by decide) ?_
    refine e_idiv dX4_letAge_81 (by decide) ?_
    refine e_istore dX4_letAge_82 (by decide) ?_
    show Ev D 2 mX4_letAge 84 [some (.ref (a)), some (.int (nI (v))), some (.int (nI (3 * v))), some (.int (N (16 + 4 * v + 1 + 0))), some (.int (N (16 + 4 * v + 1 + 1))), some (.int (N (16 + 4 * v + 1 + 2))), some (.int (((N (16 + 4 * v + 1 + 1)) * (N (7 + 0))) / nI (100))), some (.int (((N (16 + 4 * v + 1 + 0)) * (N (7 + 1))) / nI (100))), some (.int (((N (16 + 4 * v + 1 + 1)) * (N (7 + 2))) / nI (100))), none] [] h 0 0 post
    refine e_iload dX4_letAge_84 rfl ?_
    refine e_aload_n dX4_letAge_86 rfl ?_
    refine e_get dX4_letAge_87 fl_X4_60_4 hLo rfl ?_
    refine e_iconst (nI (3)) dX4_letAge_90 (by decide) ?_
    refine e_ild (3) ((N (7 + 3))) dX4_letAge_91 hr7 rfl (by omega) (by decide) (he7 _ (by omega)) ?_
    refine e_imul dX4_letAge_92 ?_
    refine e_bipush (nI (100)) dX4_letAge_93 (by decide) ?_
    refine e_idiv dX4_letAge_95 (by decide) ?_
    refine e_istore dX4_letAge_96 (by decide) ?_
    show Ev D 2 mX4_letAge 98 [some (.ref (a)), some (.int (nI (v))), some (.int (nI (3 * v))), some (.int (N (16 + 4 * v + 1 + 0))), some (.int (N (16 + 4 * v + 1 + 1))), some (.int (N (16 + 4 * v + 1 + 2))), some (.int (((N (16 + 4 * v + 1 + 1)) * (N (7 + 0))) / nI (100))), some (.int (((N (16 + 4 * v + 1 + 0)) * (N (7 + 1))) / nI (100))), some (.int (((N (16 + 4 * v + 1 + 1)) * (N (7 + 2))) / nI (100))), some (.int (((N (16 + 4 * v + 1 + 2)) * (N (7 + 3))) / nI (100)))] [] h 0 0 post
    refine e_aload_n dX4_letAge_98 rfl ?_
    refine e_get dX4_letAge_99 fl_X4_31_4 hLo rfl ?_
    refine e_iload_n dX4_letAge_102 rfl ?_
    refine e_iconst (nI (0)) dX4_letAge_103 (by decide) ?_
    refine e_iaddN dX4_letAge_104 ?_
    refine e_iload_n dX4_letAge_105 rfl ?_
    refine e_iload dX4_letAge_106 rfl ?_
    refine e_iadd dX4_letAge_108 ?_
    refine e_iload dX4_letAge_109 rfl ?_
    refine e_isub dX4_letAge_111 ?_
    refine c_S1iR (N := mX4_held) dX4_letAge_112 ls_X4_182 mo_X4_held  (Nat.le_of_ble_eq_true rfl) (Nat.le_of_ble_eq_true rfl) (by decide) (k_held D ((((N (16 + 4 * v + 1 + 0)) + (((N (16 + 4 * v + 1 + 1)) * (N (7 + 0))) / nI (100))) - (((N (16 + 4 * v + 1 + 0)) * (N (7 + 1))) / nI (100))))) ?_
    refine e_top (minI (nI 99999) (ageX N v 0)) rfl ?_
    refine e_ist (3 * v + 0) dX4_letAge_115 hr2 rfl (by omega) (by decide) ?_
    have hLp : LB (h.set (a + 2) (.inl (0, 24, .inl (upd f2 (3 * v + 0) (minI (nI 99999) (ageX N v 0)))))) a (upd N (16 + 4 * v + 1 + 0) (minI (nI 99999) (ageX N v 0))) := hL.pe hI hr2 (by omega) (by decide) _
    have hFp := hF.set (.inl (0, 24, .inl (upd f2 (3 * v + 0) (minI (nI 99999) (ageX N v 0))))) (show a ≤ a + 2 ∧ a + 2 ≤ a + 11 by omega)
    have hI := IN_pe hI (v := v) (w := 0) (x := minI (nI 99999) (ageX N v 0)) (by omega) (by decide) (by rw [hag.1]; exact rg_chg _ _)
    have hJ := hJ.pe (v := v) (w := 0) (x := minI (nI 99999) (ageX N v 0)) (by omega) (by decide) (by rw [hag.1]; exact rg_chg _ _)
    obtain ⟨h, hh9⟩ : ∃ z, z = h.set (a + 2) (.inl (0, 24, .inl (upd f2 (3 * v + 0) (minI (nI 99999) (ageX N v 0))))) := ⟨_, rfl⟩
    rw [← hh9] at hLp hFp ⊢
    clear hh9
    have hL := hLp
    have hF := hFp
    obtain ⟨hLo, -, ⟨f2, hr2, -⟩, -, -, -, -, -, -, -, -⟩ := id hL.1
    refine e_aload_n dX4_letAge_116 rfl ?_
    refine e_get dX4_letAge_117 fl_X4_31_4 hLo rfl ?_
    refine e_iload_n dX4_letAge_120 rfl ?_
    refine e_iconst (nI (1)) dX4_letAge_121 (by decide) ?_
    refine e_iaddN dX4_letAge_122 ?_
    refine e_iload dX4_letAge_123 rfl ?_
    refine e_iload dX4_letAge_125 rfl ?_
    refine e_iadd dX4_letAge_127 ?_
    refine e_iload dX4_letAge_128 rfl ?_
    refine e_isub dX4_letAge_130 ?_
    refine c_S1iR (N := mX4_held) dX4_letAge_131 ls_X4_182 mo_X4_held  (Nat.le_of_ble_eq_true rfl) (Nat.le_of_ble_eq_true rfl) (by decide) (k_held D ((((N (16 + 4 * v + 1 + 1)) + (((N (16 + 4 * v + 1 + 0)) * (N (7 + 1))) / nI (100))) - (((N (16 + 4 * v + 1 + 1)) * (N (7 + 2))) / nI (100))))) ?_
    refine e_top (minI (nI 99999) (ageX N v 1)) rfl ?_
    refine e_ist (3 * v + 1) dX4_letAge_134 hr2 rfl (by omega) (by decide) ?_
    have hLp : LB (h.set (a + 2) (.inl (0, 24, .inl (upd f2 (3 * v + 1) (minI (nI 99999) (ageX N v 1)))))) a (upd (upd N (16 + 4 * v + 1 + 0) (minI (nI 99999) (ageX N v 0))) (16 + 4 * v + 1 + 1) (minI (nI 99999) (ageX N v 1))) := hL.pe hI hr2 (by omega) (by decide) _
    have hFp := hF.set (.inl (0, 24, .inl (upd f2 (3 * v + 1) (minI (nI 99999) (ageX N v 1))))) (show a ≤ a + 2 ∧ a + 2 ≤ a + 11 by omega)
    have hI := IN_pe hI (v := v) (w := 1) (x := minI (nI 99999) (ageX N v 1)) (by omega) (by decide) (by rw [hag.2.1]; exact rg_chg _ _)
    have hJ := hJ.pe (v := v) (w := 1) (x := minI (nI 99999) (ageX N v 1)) (by omega) (by decide) (by rw [hag.2.1]; exact rg_chg _ _)
    obtain ⟨h, hh9⟩ : ∃ z, z = h.set (a + 2) (.inl (0, 24, .inl (upd f2 (3 * v + 1) (minI (nI 99999) (ageX N v 1))))) := ⟨_, rfl⟩
    rw [← hh9] at hLp hFp ⊢
    clear hh9
    have hL := hLp
    have hF := hFp
    obtain ⟨hLo, -, ⟨f2, hr2, -⟩, -, -, -, -, -, -, -, -⟩ := id hL.1
    refine e_aload_n dX4_letAge_135 rfl ?_
    refine e_get dX4_letAge_136 fl_X4_31_4 hLo rfl ?_
    refine e_iload_n dX4_letAge_139 rfl ?_
    refine e_iconst (nI (2)) dX4_letAge_140 (by decide) ?_
    refine e_iaddN dX4_letAge_141 ?_
    refine e_iload dX4_letAge_142 rfl ?_
    refine e_iload dX4_letAge_144 rfl ?_
    refine e_iadd dX4_letAge_146 ?_
    refine e_iload dX4_letAge_147 rfl ?_
    refine e_isub dX4_letAge_149 ?_
    refine c_S1iR (N := mX4_held) dX4_letAge_150 ls_X4_182 mo_X4_held  (Nat.le_of_ble_eq_true rfl) (Nat.le_of_ble_eq_true rfl) (by decide) (k_held D ((((N (16 + 4 * v + 1 + 2)) + (((N (16 + 4 * v + 1 + 1)) * (N (7 + 2))) / nI (100))) - (((N (16 + 4 * v + 1 + 2)) * (N (7 + 3))) / nI (100))))) ?_
    refine e_top (minI (nI 99999) (ageX N v 2)) rfl ?_
    refine e_ist (3 * v + 2) dX4_letAge_153 hr2 rfl (by omega) (by decide) ?_
    have hLp : LB (h.set (a + 2) (.inl (0, 24, .inl (upd f2 (3 * v + 2) (minI (nI 99999) (ageX N v 2)))))) a (upd (upd (upd N (16 + 4 * v + 1 + 0) (minI (nI 99999) (ageX N v 0))) (16 + 4 * v + 1 + 1) (minI (nI 99999) (ageX N v 1))) (16 + 4 * v + 1 + 2) (minI (nI 99999) (ageX N v 2))) := hL.pe hI hr2 (by omega) (by decide) _
    have hFp := hF.set (.inl (0, 24, .inl (upd f2 (3 * v + 2) (minI (nI 99999) (ageX N v 2))))) (show a ≤ a + 2 ∧ a + 2 ≤ a + 11 by omega)
    have hI := IN_pe hI (v := v) (w := 2) (x := minI (nI 99999) (ageX N v 2)) (by omega) (by decide) (by rw [hag.2.2]; exact rg_chg _ _)
    have hJ := hJ.pe (v := v) (w := 2) (x := minI (nI 99999) (ageX N v 2)) (by omega) (by decide) (by rw [hag.2.2]; exact rg_chg _ _)
    obtain ⟨h, hh9⟩ : ∃ z, z = h.set (a + 2) (.inl (0, 24, .inl (upd f2 (3 * v + 2) (minI (nI 99999) (ageX N v 2))))) := ⟨_, rfl⟩
    rw [← hh9] at hLp hFp ⊢
    clear hh9
    have hL := hLp
    have hF := hFp
    obtain ⟨hLo, -, ⟨f2, hr2, -⟩, -, -, -, -, -, -, -, -⟩ := id hL.1
    refine e_iincN (v + 1) dX4_letAge_154 rfl (by decide) (nI_add _ _) ?_
    refine e_goto 2 dX4_letAge_157 (by decide) ?_
    refine Ev.drop 2 (Ev.drop 3 (Ev.drop 4 (Ev.drop 5 (Ev.drop 6 (Ev.drop 7 (Ev.drop 8 (Ev.drop 9 (?_))))))))
    have eN := lvW_eq hPW (v := v) (by omega)
    rw [eN] at hL hI hJ
    exact ih (v + 1) h _ (by omega) hL hI hF hJ (by rw [lvs, ← hN])
