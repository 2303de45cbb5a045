theorem go_eq {x s : Int32} (hx : rg x 99999) (hs : rg s 100) : x - x * s / nI 100 = chg x (-(x * s / nI 100)).toInt64 ∧ ∃ r : Nat, x * s / nI 100 = nI r ∧ r ≤ 99999 := by
  obtain ⟨p, hp, hp2⟩ := rg_toI hx (by decide)
  obtain ⟨q, hq, hq2⟩ := rg_toI hs (by decide)
  obtain ⟨e1, e2⟩ := pct hp hq (by omega) (by omega)
  refine ⟨?_, _, e1, by omega⟩
  have e3 : x + -(x * s / nI 100) = nI (p - p * q / 100) := by rw [← Int32.sub_eq_add_neg, e1, hp, pk_sub e2]
  rw [chg_of (p := (p : Int)) (d := -((p * q / 100 : Nat) : Int)) (by rw [hp]; exact nI_toInt (by omega)) (by rw [e1]; exact toI_neg (nI_toInt (by omega)) (by omega) (by omega)) (by omega) (by omega) (by omega) (by omega), minI_id e3 (by omega), Int32.sub_eq_add_neg]
theorem fin_eq {x y : Int32} {p : Nat} (hx : rg x 99999) (hy : y = nI p) (hp : p ≤ 1000000) : minI (nI 99999) (x + y) = chg x y.toInt64 := by
  obtain ⟨q, hq, hq2⟩ := rg_toI hx (by decide)
  exact (chg_of (p := (q : Int)) (d := (p : Int)) (by rw [hq]; exact nI_toInt (by omega)) (by rw [hy]; exact nI_toInt (by omega)) (by omega) (by omega) (by omega) (by omega)).symm
theorem half_n {g : Int32} {r : Nat} (hg : g = nI r) (hr : r ≤ 99999) : ∃ p : Nat, g / nI 2 = nI p ∧ p ≤ 49999 := ⟨r / 2, by rw [hg, pk_div (by omega) (by decide) (by decide)], by omega⟩
theorem LB.w10 {h : AH} {a : Nat} {N : Nat → Int32} (hL : LB h a N) (hI : IN N) (f : Nat → Int32) : LB (h.set (a + 11) (.inl (0, 3, .inl f))) a N := hL.set (by have := hL.2.2; omega) (fun fs e => by cases e) (hL.1.w10 hI hL.2.2 f)
/-- what is known as the villages are gone through -/
def GS (a : Nat) (N0 : Nat → Int32) (h0 h : AH) (M : (Nat → Int32) × (Nat → Int32)) (C9 : Nat → Int32) (b : Nat → Nat) : Prop := LB h a M.1 ∧ IN M.1 ∧ FY a h0 h ∧ JW M.1 N0 ∧ Row0 h (a + 10) 8 C9 ∧ (∃ A, Row0 h (a + 11) 3 A ∧ ∀ w, w < 3 → A w = M.2 w) ∧ ∀ w, w < 3 → ∃ p : Nat, M.2 w = nI p ∧ p ≤ b w
set_option maxRecDepth 20000 in
theorem kl_goV (D : En) {a : Nat} {post : Option Value → AH → Prop} {N0 N1 : Nat → Int32} {h0 : AH} {C C9 : Nat → Int32} (hv : Nat) (hhv : hv < 8) (hCe : ∀ w, w < nvN N0 → C9 w = C w) (kk : ∀ h M, M = goV (txN N0 1) C hv N1 (nvN N0) → GS a N0 h0 h M C9 (fun _ => 400000) → Ev D 3 mX4_letGo 131 [some (.ref a), some (.int (nI hv)), none, none, none, none, none] [] h 0 0 post) : ∀ (j : Nat) (v : Nat) (h : AH) (M : (Nat → Int32) × (Nat → Int32)), (v + j = nvN N0) → (M = goV (txN N0 1) C hv N1 v) → (GS a N0 h0 h M C9 (fun _ => 50000 * v)) → Ev D 3 mX4_letGo 27 [some (.ref (a)), some (.int (nI (hv))), some (.int (nI (v))), none, none, none, none] [] h 0 0 post := by
  intro j
  induction j with
  | zero =>
    intro v h M hm hM hG
    obtain ⟨hL, hI, hF, hJ, hCr, ⟨A10, hAr, hA⟩, hB0⟩ := hG
    have ha97 := hL.2.2
    obtain ⟨hLo, ⟨f1, hr1, he1⟩, ⟨f2, hr2, he2⟩, ⟨f3, hr3, he3⟩, ⟨T4, hr4, he4⟩, ⟨f5, hr5, he5⟩, ⟨f6, hr6, he6⟩, ⟨f7, hr7, he7⟩, ⟨R8, hr8, he8⟩, ⟨f9, hr9⟩, ⟨f10, hr10⟩, ⟨fG, hrG, heG⟩⟩ := id hL.1
    have hY := hI.1
    have hnv := hY.2.1
    have htc10 := hY.2.2.2.1
    have hnvE := hJ.nv
    refine e_iload_n dX4_letGo_27 rfl ?_
    refine e_aload_n dX4_letGo_28 rfl ?_
    refine e_get dX4_letGo_29 fl_X4_18_4 hLo rfl ?_
    refine e_top (nI (nvN M.1)) hY.1 ?_
    refine e_icmp_geN 131 dX4_letGo_32 (by decide) (by omega) (by omega) (fun hcq32 => ?_) (fun hcq32 => absurd hcq32 (by omega))
    rw [show v = nvN N0 by omega] at hM
    refine Ev.drop 2 (kk h M hM ⟨hL, hI, hF, hJ, hCr, ⟨A10, hAr, hA⟩, fun w hw => ?_⟩)
    obtain ⟨p9, hp9, hp8⟩ := hB0 w hw
    exact ⟨p9, hp9, Nat.le_trans hp8 (by show 50000 * v ≤ 400000; omega)⟩
  | succ j ih =>
    intro v h M hm hM hG
    obtain ⟨hL, hI, hF, hJ, hCr, ⟨A10, hAr, hA⟩, hB0⟩ := hG
    have ha97 := hL.2.2
    obtain ⟨hLo, ⟨f1, hr1, he1⟩, ⟨f2, hr2, he2⟩, ⟨f3, hr3, he3⟩, ⟨T4, hr4, he4⟩, ⟨f5, hr5, he5⟩, ⟨f6, hr6, he6⟩, ⟨f7, hr7, he7⟩, ⟨R8, hr8, he8⟩, ⟨f9, hr9⟩, ⟨f10, hr10⟩, ⟨fG, hrG, heG⟩⟩ := id hL.1
    have hY := hI.1
    have hnv := hY.2.1
    have htc10 := hY.2.2.2.1
    have hnvE := hJ.nv
    refine e_iload_n dX4_letGo_27 rfl ?_
    refine e_aload_n dX4_letGo_28 rfl ?_
    refine e_get dX4_letGo_29 fl_X4_18_4 hLo rfl ?_
    refine e_top (nI (nvN M.1)) hY.1 ?_
    refine e_icmp_geN 131 dX4_letGo_32 (by decide) (by omega) (by omega) (fun hcq32 => absurd hcq32 (by omega)) (fun hcq32 => ?_)
    refine e_aload_n dX4_letGo_35 rfl ?_
    refine e_iload_n dX4_letGo_36 rfl ?_
    refine c_V1iR (N := mX4_allOf) dX4_letGo_37 lv_X4_115 mo_X4_allOf hL.1.cn (Nat.le_of_ble_eq_true rfl) (Nat.le_of_ble_eq_true rfl) (by decide) (k_allOf D hL.1 hI (v) (by omega)) ?_
    refine e_istore_n dX4_letGo_40 (by decide) ?_
    show Ev D 3 mX4_letGo 41 [some (.ref (a)), some (.int (nI (hv))), some (.int (nI (v))), some (.int (allR M.1 v)), none, none, none] [] h 0 0 post
    obtain ⟨al, hal⟩ : ∃ z, z = allR M.1 v := ⟨_, rfl⟩
    rw [← hal]
    have hB : ∀ w, w < 3 → ∃ p : Nat, M.2 w = nI p ∧ p ≤ 50000 * v + (if w < 0 then 50000 else 0) := hB0
    refine e_iconst (nI (0)) dX4_letGo_41 (by decide) ?_
    refine e_istore dX4_letGo_42 (by decide) ?_
    show Ev D 3 mX4_letGo 44 [some (.ref (a)), some (.int (nI (hv))), some (.int (nI (v))), some (.int (al)), some (.int (nI (0))), none, none] [] h 0 0 post
    refine e_iload dX4_letGo_44 rfl ?_
    refine e_iconst (nI (3)) dX4_letGo_46 (by decide) ?_
    refine e_icmp_geN 125 dX4_letGo_47 (by decide) (by omega) (by omega) (fun hcq47 => absurd hcq47 (by decide)) (fun hcq47 => ?_)
    refine e_iconst (nI (3)) dX4_letGo_50 (by decide) ?_
    refine e_iload_n dX4_letGo_51 rfl ?_
    refine e_imulN dX4_letGo_52 ?_
    refine e_iload dX4_letGo_53 rfl ?_
    refine e_iaddN dX4_letGo_55 ?_
    refine e_istore dX4_letGo_56 (by decide) ?_
    show Ev D 3 mX4_letGo 58 [some (.ref (a)), some (.int (nI (hv))), some (.int (nI (v))), some (.int (al)), some (.int (nI (0))), some (.int (nI ((3 * v) + 0))), none] [] h 0 0 post
    refine e_aload_n dX4_letGo_58 rfl ?_
    refine e_get dX4_letGo_59 fl_X4_31_4 hLo rfl ?_
    refine e_iload dX4_letGo_62 rfl ?_
    refine e_ild ((3 * v) + 0) ((M.1 (16 + 4 * v + 1 + 0))) dX4_letGo_64 hr2 rfl (by omega) (by decide) (he2 v (by omega) 0 (by decide)) ?_
    refine e_aload_n dX4_letGo_65 rfl ?_
    refine e_iload dX4_letGo_66 rfl ?_
    refine e_aload_n dX4_letGo_68 rfl ?_
    refine e_get dX4_letGo_69 fl_X4_69_4 hLo rfl ?_
    refine e_iload_n dX4_letGo_72 rfl ?_
    refine e_ild (v) ((C v)) dX4_letGo_73 hCr rfl (by omega) (by decide) (hCe _ (by omega)) ?_
    refine e_iload_n dX4_letGo_74 rfl ?_
    refine c_V3i (nc := 0) (ns := 0) (mc := 0) (ms := 0) (N := mX4_shareToGo) dX4_letGo_75 lv_X4_178 mo_X4_shareToGo hL.1.cn (Nat.le_of_ble_eq_true rfl) (Nat.le_of_ble_eq_true rfl) (by decide) (k_shareToGo D hL.1 hI (nI (0)) ((C v)) ((al))) (fun h hP => ?_)
    have hlo : ∀ x, x < 104 → h[x]? = _ := fun x hx => hP.lo hL.2.1 hx
    have hCr : Row0 h (a + 10) 8 C9 := (hlo _ (by omega)).trans hCr
    have hAr : Row0 h (a + 11) 3 A10 := (hlo _ (by omega)).trans hAr
    have hF := hF.pr hL.2.1 hL.2.2 hP
    have hL := hL.pr_ hP
    obtain ⟨hLo, ⟨f1, hr1, he1⟩, ⟨f2, hr2, he2⟩, ⟨f3, hr3, he3⟩, ⟨T4, hr4, he4⟩, ⟨f5, hr5, he5⟩, ⟨f6, hr6, he6⟩, ⟨f7, hr7, he7⟩, ⟨R8, hr8, he8⟩, ⟨f9, hr9⟩, ⟨f10, hr10⟩, ⟨fG, hrG, heG⟩⟩ := id hL.1
    have hY := hI.1
    have hnv := hY.2.1
    have htc10 := hY.2.2.2.1
    refine e_top (givenR (txN N0 1) 1 (nI (0)) ((C v)) ((al)) (nI 0)) (by rw [hJ.tx]) ?_
    refine e_imul dX4_letGo_78 ?_
    refine e_bipush (nI (100)) dX4_letGo_79 (by decide) ?_
    refine e_idiv dX4_letGo_81 (by decide) ?_
    refine e_istore dX4_letGo_82 (by decide) ?_
    show Ev D 3 mX4_letGo 84 [some (.ref (a)), some (.int (nI (hv))), some (.int (nI (v))), some (.int (al)), some (.int (nI (0))), some (.int (nI ((3 * v) + 0))), some (.int (((M.1 (16 + 4 * v + 1 + 0)) * (givenR (txN N0 1) 1 (nI (0)) ((C v)) ((al)) (nI 0))) / nI (100)))] [] h 0 0 post
    refine e_aload_n dX4_letGo_84 rfl ?_
    refine e_get dX4_letGo_85 fl_X4_31_4 hLo rfl ?_
    refine e_iload dX4_letGo_88 rfl ?_
    refine e_dup2 dX4_letGo_90 rfl rfl ?_
    refine e_ild ((3 * v) + 0) ((M.1 (16 + 4 * v + 1 + 0))) dX4_letGo_91 hr2 rfl (by omega) (by decide) (he2 v (by omega) 0 (by decide)) ?_
    refine e_iload dX4_letGo_92 rfl ?_
    refine e_isub dX4_letGo_94 ?_
    have hgo := go_eq (hI.2.2.2.1.1 v (by omega) 0 (by decide)) (rg_gv1 (txN N0 1) (nI 0) (C v) al (nI 0))
    refine e_top (chg (M.1 (16 + 4 * v + 1 + 0)) (-(M.1 (16 + 4 * v + 1 + 0) * givenR (txN N0 1) 1 (nI 0) (C v) al (nI 0) / nI 100)).toInt64) hgo.1 ?_
    refine e_ist (3 * v + 0) dX4_letGo_95 hr2 rfl (by omega) (by decide) ?_
    have hLp := hL.pe hI hr2 (v := v) (w := 0) (by omega) (by decide) (chg (M.1 (16 + 4 * v + 1 + 0)) (-(M.1 (16 + 4 * v + 1 + 0) * givenR (txN N0 1) 1 (nI 0) (C v) al (nI 0) / nI 100)).toInt64)
    have hFp := hF.set (.inl (0, 24, .inl (upd f2 (3 * v + 0) (chg (M.1 (16 + 4 * v + 1 + 0)) (-(M.1 (16 + 4 * v + 1 + 0) * givenR (txN N0 1) 1 (nI 0) (C v) al (nI 0) / nI 100)).toInt64)))) (show a ≤ a + 2 ∧ a + 2 ≤ a + 11 by omega)
    have hI := IN_pe hI (v := v) (w := 0) (x := chg (M.1 (16 + 4 * v + 1 + 0)) (-(M.1 (16 + 4 * v + 1 + 0) * givenR (txN N0 1) 1 (nI 0) (C v) al (nI 0) / nI 100)).toInt64) (by omega) (by decide) (rg_chg _ _)
    have hJ := hJ.pe (v := v) (w := 0) (x := chg (M.1 (16 + 4 * v + 1 + 0)) (-(M.1 (16 + 4 * v + 1 + 0) * givenR (txN N0 1) 1 (nI 0) (C v) al (nI 0) / nI 100)).toInt64) (by omega) (by decide) (rg_chg _ _)
    have hCrp : Row0 (h.set (a + 2) (.inl (0, 24, .inl (upd f2 (3 * v + 0) (chg (M.1 (16 + 4 * v + 1 + 0)) (-(M.1 (16 + 4 * v + 1 + 0) * givenR (txN N0 1) 1 (nI 0) (C v) al (nI 0) / nI 100)).toInt64))))) (a + 10) 8 C9 := getset hCr (by omega)
    have hArp : Row0 (h.set (a + 2) (.inl (0, 24, .inl (upd f2 (3 * v + 0) (chg (M.1 (16 + 4 * v + 1 + 0)) (-(M.1 (16 + 4 * v + 1 + 0) * givenR (txN N0 1) 1 (nI 0) (C v) al (nI 0) / nI 100)).toInt64))))) (a + 11) 3 A10 := getset hAr (by omega)
    obtain ⟨h, hh9⟩ : ∃ z, z = h.set (a + 2) (.inl (0, 24, .inl (upd f2 (3 * v + 0) (chg (M.1 (16 + 4 * v + 1 + 0)) (-(M.1 (16 + 4 * v + 1 + 0) * givenR (txN N0 1) 1 (nI 0) (C v) al (nI 0) / nI 100)).toInt64)))) := ⟨_, rfl⟩
    rw [← hh9] at hLp hFp hCrp hArp ⊢
    clear hh9
    have hL := hLp
    have hF := hFp
    have hCr := hCrp
    have hAr := hArp
    obtain ⟨hLo, -, -, -, -, -, -, -, -, -, -⟩ := id hL.1
    refine e_aload_n dX4_letGo_96 rfl ?_
    refine e_get dX4_letGo_97 fl_X4_72_4 hLo rfl ?_
    refine e_iload dX4_letGo_100 rfl ?_
    refine e_dup2 dX4_letGo_102 rfl rfl ?_
    refine e_ild (0) ((M.2 0)) dX4_letGo_103 hAr rfl (by omega) (by decide) (hA _ (by decide)) ?_
    refine e_iload_n dX4_letGo_104 rfl ?_
    refine e_iload_n dX4_letGo_105 rfl ?_
    have K1 : Ev D 3 mX4_letGo 117 [some (.ref (a)), some (.int (nI (hv))), some (.int (nI (v))), some (.int (al)), some (.int (nI (0))), some (.int (nI ((3 * v) + 0))), some (.int (((M.1 (16 + 4 * v + 1 + 0)) * (givenR (txN N0 1) 1 (nI (0)) ((C v)) ((al)) (nI 0))) / nI (100)))] [.int (if v = hv then nI 0 else (((M.1 (16 + 4 * v + 1 + 0)) * (givenR (txN N0 1) 1 (nI (0)) ((C v)) ((al)) (nI 0))) / nI (100)) / nI 2), .int (M.2 0), .int (nI (0)), .ref (a + 11)] h 0 0 post := by
      refine e_iadd dX4_letGo_117 ?_
      refine e_ist 0 dX4_letGo_118 hAr rfl (by omega) (by decide) ?_
      have hLp := hL.w10 hI (upd A10 0 (M.2 0 + (if v = hv then nI 0 else M.1 (16 + 4 * v + 1 + 0) * givenR (txN N0 1) 1 (nI 0) (C v) al (nI 0) / nI 100 / nI 2)))
      have hFp := hF.set (.inl (0, 3, .inl (upd A10 0 (M.2 0 + (if v = hv then nI 0 else M.1 (16 + 4 * v + 1 + 0) * givenR (txN N0 1) 1 (nI 0) (C v) al (nI 0) / nI 100 / nI 2))))) (show a ≤ a + 11 ∧ a + 11 ≤ a + 11 by omega)
      have hCrp : Row0 (h.set (a + 11) (.inl (0, 3, .inl (upd A10 0 (M.2 0 + (if v = hv then nI 0 else M.1 (16 + 4 * v + 1 + 0) * givenR (txN N0 1) 1 (nI 0) (C v) al (nI 0) / nI 100 / nI 2)))))) (a + 10) 8 C9 := getset hCr (by omega)
      have hArp : Row0 (h.set (a + 11) (.inl (0, 3, .inl (upd A10 0 (M.2 0 + (if v = hv then nI 0 else M.1 (16 + 4 * v + 1 + 0) * givenR (txN N0 1) 1 (nI 0) (C v) al (nI 0) / nI 100 / nI 2)))))) (a + 11) 3 (upd A10 0 (M.2 0 + (if v = hv then nI 0 else M.1 (16 + 4 * v + 1 + 0) * givenR (txN N0 1) 1 (nI 0) (C v) al (nI 0) / nI 100 / nI 2))) := getself hAr
      obtain ⟨h, hh9⟩ : ∃ z, z = h.set (a + 11) (.inl (0, 3, .inl (upd A10 0 (M.2 0 + (if v = hv then nI 0 else M.1 (16 + 4 * v + 1 + 0) * givenR (txN N0 1) 1 (nI 0) (C v) al (nI 0) / nI 100 / nI 2))))) := ⟨_, rfl⟩
      rw [← hh9] at hLp hFp hCrp hArp ⊢
      clear hh9
      have hF := hFp
      have hCr := hCrp
      obtain ⟨M1, hM1⟩ : ∃ z, z = goS (txN N0 1) (C v) al v hv 0 M := ⟨_, rfl⟩
      have hL : LB h a M1.1 := by rw [hM1]; exact hLp
      have hI : IN M1.1 := by rw [hM1]; exact hI
      have hJ : JW M1.1 N0 := by rw [hM1]; exact hJ
      have hA : ∀ w, w < 3 → upd A10 0 (M.2 0 + (if v = hv then nI 0 else M.1 (16 + 4 * v + 1 + 0) * givenR (txN N0 1) 1 (nI 0) (C v) al (nI 0) / nI 100 / nI 2)) w = M1.2 w := fun w hw => by
        rw [hM1]
        show upd _ _ _ _ = upd _ _ _ _
        by_cases e9 : w = 0
        · rw [e9, pk_us, pk_us]
        · rw [pk_un e9, pk_un e9]; exact hA w hw
      have hB : ∀ w, w < 3 → ∃ p : Nat, M1.2 w = nI p ∧ p ≤ 50000 * v + (if w < 1 then 50000 else 0) := fun w hw => by
        rw [hM1]
        show ∃ p : Nat, upd _ _ _ _ = nI p ∧ _
        obtain ⟨p9, hp9, hp8⟩ := hB w hw
        by_cases e9 : w = 0
        · rw [e9] at hp9 hp8
          rw [if_neg (by omega)] at hp8
          obtain ⟨r9, hr9, hr8⟩ := hgo.2
          obtain ⟨q9, hq9, hq8⟩ := half_n hr9 hr8
          rw [e9, pk_us, if_pos (show 0 < 1 by decide), hp9]
          split
          · exact ⟨p9 + 0, nI_add _ _, by omega⟩
          · rw [hq9]; exact ⟨p9 + q9, nI_add _ _, by omega⟩
        · rw [pk_un e9, hp9]
          refine ⟨p9, rfl, ?_⟩
          by_cases e8 : w < 0
          · rw [if_pos e8] at hp8; rw [if_pos (by omega)]; exact hp8
          · rw [if_neg e8] at hp8; rw [if_neg (by omega)]; exact hp8
      obtain ⟨A10, hA10⟩ : ∃ z, z = upd A10 0 (M.2 0 + (if v = hv then nI 0 else M.1 (16 + 4 * v + 1 + 0) * givenR (txN N0 1) 1 (nI 0) (C v) al (nI 0) / nI 100 / nI 2)) := ⟨_, rfl⟩
      rw [← hA10] at hArp hA
      have hAr := hArp
      obtain ⟨hLo, ⟨f1, hr1, he1⟩, ⟨f2, hr2, he2⟩, ⟨f3, hr3, he3⟩, ⟨T4, hr4, he4⟩, ⟨f5, hr5, he5⟩, ⟨f6, hr6, he6⟩, ⟨f7, hr7, he7⟩, ⟨R8, hr8, he8⟩, ⟨f9, hr9⟩, ⟨f10, hr10⟩, ⟨fG, hrG, heG⟩⟩ := id hL.1
      have hY := hI.1
      have hnv := hY.2.1
      have htc10 := hY.2.2.2.1
      refine e_iincN 1 dX4_letGo_119 rfl (by decide) (nI_add 0 1) ?_
      refine e_goto 44 dX4_letGo_122 (by decide) ?_
      refine e_iload dX4_letGo_44 rfl ?_
      refine e_iconst (nI (3)) dX4_letGo_46 (by decide) ?_
      refine e_icmp_geN 125 dX4_letGo_47 (by decide) (by omega) (by omega) (fun hcq47 => absurd hcq47 (by decide)) (fun hcq47 => ?_)
      refine e_iconst (nI (3)) dX4_letGo_50 (by decide) ?_
      refine e_iload_n dX4_letGo_51 rfl ?_
      refine e_imulN dX4_letGo_52 ?_
      refine e_iload dX4_letGo_53 rfl ?_
      refine e_iaddN dX4_letGo_55 ?_
      refine e_istore dX4_letGo_56 (by decide) ?_
      show Ev D 3 mX4_letGo 58 [some (.ref (a)), some (.int (nI (hv))), some (.int (nI (v))), some (.int (al)), some (.int (nI (1))), some (.int (nI ((3 * v) + 1))), some (.int (((M.1 (16 + 4 * v + 1 + 0)) * (givenR (txN N0 1) 1 (nI (0)) ((C v)) ((al)) (nI 0))) / nI (100)))] [] h 0 0 post
      refine e_aload_n dX4_letGo_58 rfl ?_
      refine e_get dX4_letGo_59 fl_X4_31_4 hLo rfl ?_
      refine e_iload dX4_letGo_62 rfl ?_
      refine e_ild ((3 * v) + 1) ((M1.1 (16 + 4 * v + 1 + 1))) dX4_letGo_64 hr2 rfl (by omega) (by decide) (he2 v (by omega) 1 (by decide)) ?_
      refine e_aload_n dX4_letGo_65 rfl ?_
      refine e_iload dX4_letGo_66 rfl ?_
      refine e_aload_n dX4_letGo_68 rfl ?_
      refine e_get dX4_letGo_69 fl_X4_69_4 hLo rfl ?_
      refine e_iload_n dX4_letGo_72 rfl ?_
      refine e_ild (v) ((C v)) dX4_letGo_73 hCr rfl (by omega) (by decide) (hCe _ (by omega)) ?_
      refine e_iload_n dX4_letGo_74 rfl ?_
      refine c_V3i (nc := 0) (ns := 0) (mc := 0) (ms := 0) (N := mX4_shareToGo) dX4_letGo_75 lv_X4_178 mo_X4_shareToGo hL.1.cn (Nat.le_of_ble_eq_true rfl) (Nat.le_of_ble_eq_true rfl) (by decide) (k_shareToGo D hL.1 hI (nI (1)) ((C v)) ((al))) (fun h hP => ?_)
      have hlo : ∀ x, x < 104 → h[x]? = _ := fun x hx => hP.lo hL.2.1 hx
      have hCr : Row0 h (a + 10) 8 C9 := (hlo _ (by omega)).trans hCr
      have hAr : Row0 h (a + 11) 3 A10 := (hlo _ (by omega)).trans hAr
      have hF := hF.pr hL.2.1 hL.2.2 hP
      have hL := hL.pr_ hP
      obtain ⟨hLo, ⟨f1, hr1, he1⟩, ⟨f2, hr2, he2⟩, ⟨f3, hr3, he3⟩, ⟨T4, hr4, he4⟩, ⟨f5, hr5, he5⟩, ⟨f6, hr6, he6⟩, ⟨f7, hr7, he7⟩, ⟨R8, hr8, he8⟩, ⟨f9, hr9⟩, ⟨f10, hr10⟩, ⟨fG, hrG, heG⟩⟩ := id hL.1
      have hY := hI.1
      have hnv := hY.2.1
      have htc10 := hY.2.2.2.1
      refine e_top (givenR (txN N0 1) 1 (nI (1)) ((C v)) ((al)) (nI 0)) (by rw [hJ.tx]) ?_
      refine e_imul dX4_letGo_78 ?_
      refine e_bipush (nI (100)) dX4_letGo_79 (by decide) ?_
      refine e_idiv dX4_letGo_81 (by decide) ?_
      refine e_istore dX4_letGo_82 (by decide) ?_
      show Ev D 3 mX4_letGo 84 [some (.ref (a)), some (.int (nI (hv))), some (.int (nI (v))), some (.int (al)), some (.int (nI (1))), some (.int (nI ((3 * v) + 1))), some (.int (((M1.1 (16 + 4 * v + 1 + 1)) * (givenR (txN N0 1) 1 (nI (1)) ((C v)) ((al)) (nI 0))) / nI (100)))] [] h 0 0 post
      refine e_aload_n dX4_letGo_84 rfl ?_
      refine e_get dX4_letGo_85 fl_X4_31_4 hLo rfl ?_
      refine e_iload dX4_letGo_88 rfl ?_
      refine e_dup2 dX4_letGo_90 rfl rfl ?_
      refine e_ild ((3 * v) + 1) ((M1.1 (16 + 4 * v + 1 + 1))) dX4_letGo_91 hr2 rfl (by omega) (by decide) (he2 v (by omega) 1 (by decide)) ?_
      refine e_iload dX4_letGo_92 rfl ?_
      refine e_isub dX4_letGo_94 ?_
      have hgo := go_eq (hI.2.2.2.1.1 v (by omega) 1 (by decide)) (rg_gv1 (txN N0 1) (nI 1) (C v) al (nI 0))
      refine e_top (chg (M1.1 (16 + 4 * v + 1 + 1)) (-(M1.1 (16 + 4 * v + 1 + 1) * givenR (txN N0 1) 1 (nI 1) (C v) al (nI 0) / nI 100)).toInt64) hgo.1 ?_
      refine e_ist (3 * v + 1) dX4_letGo_95 hr2 rfl (by omega) (by decide) ?_
      have hLp := hL.pe hI hr2 (v := v) (w := 1) (by omega) (by decide) (chg (M1.1 (16 + 4 * v + 1 + 1)) (-(M1.1 (16 + 4 * v + 1 + 1) * givenR (txN N0 1) 1 (nI 1) (C v) al (nI 0) / nI 100)).toInt64)
      have hFp := hF.set (.inl (0, 24, .inl (upd f2 (3 * v + 1) (chg (M1.1 (16 + 4 * v + 1 + 1)) (-(M1.1 (16 + 4 * v + 1 + 1) * givenR (txN N0 1) 1 (nI 1) (C v) al (nI 0) / nI 100)).toInt64)))) (show a ≤ a + 2 ∧ a + 2 ≤ a + 11 by omega)
      have hI := IN_pe hI (v := v) (w := 1) (x := chg (M1.1 (16 + 4 * v + 1 + 1)) (-(M1.1 (16 + 4 * v + 1 + 1) * givenR (txN N0 1) 1 (nI 1) (C v) al (nI 0) / nI 100)).toInt64) (by omega) (by decide) (rg_chg _ _)
      have hJ := hJ.pe (v := v) (w := 1) (x := chg (M1.1 (16 + 4 * v + 1 + 1)) (-(M1.1 (16 + 4 * v + 1 + 1) * givenR (txN N0 1) 1 (nI 1) (C v) al (nI 0) / nI 100)).toInt64) (by omega) (by decide) (rg_chg _ _)
      have hCrp : Row0 (h.set (a + 2) (.inl (0, 24, .inl (upd f2 (3 * v + 1) (chg (M1.1 (16 + 4 * v + 1 + 1)) (-(M1.1 (16 + 4 * v + 1 + 1) * givenR (txN N0 1) 1 (nI 1) (C v) al (nI 0) / nI 100)).toInt64))))) (a + 10) 8 C9 := getset hCr (by omega)
      have hArp : Row0 (h.set (a + 2) (.inl (0, 24, .inl (upd f2 (3 * v + 1) (chg (M1.1 (16 + 4 * v + 1 + 1)) (-(M1.1 (16 + 4 * v + 1 + 1) * givenR (txN N0 1) 1 (nI 1) (C v) al (nI 0) / nI 100)).toInt64))))) (a + 11) 3 A10 := getset hAr (by omega)
      obtain ⟨h, hh9⟩ : ∃ z, z = h.set (a + 2) (.inl (0, 24, .inl (upd f2 (3 * v + 1) (chg (M1.1 (16 + 4 * v + 1 + 1)) (-(M1.1 (16 + 4 * v + 1 + 1) * givenR (txN N0 1) 1 (nI 1) (C v) al (nI 0) / nI 100)).toInt64)))) := ⟨_, rfl⟩
      rw [← hh9] at hLp hFp hCrp hArp ⊢
      clear hh9
      have hL := hLp
      have hF := hFp
      have hCr := hCrp
      have hAr := hArp
      obtain ⟨hLo, -, -, -, -, -, -, -, -, -, -⟩ := id hL.1
      refine e_aload_n dX4_letGo_96 rfl ?_
      refine e_get dX4_letGo_97 fl_X4_72_4 hLo rfl ?_
      refine e_iload dX4_letGo_100 rfl ?_
      refine e_dup2 dX4_letGo_102 rfl rfl ?_
      refine e_ild (1) ((M1.2 1)) dX4_letGo_103 hAr rfl (by omega) (by decide) (hA _ (by decide)) ?_
      refine e_iload_n dX4_letGo_104 rfl ?_
      refine e_iload_n dX4_letGo_105 rfl ?_
      have K2 : Ev D 3 mX4_letGo 117 [some (.ref (a)), some (.int (nI (hv))), some (.int (nI (v))), some (.int (al)), some (.int (nI (1))), some (.int (nI ((3 * v) + 1))), some (.int (((M1.1 (16 + 4 * v + 1 + 1)) * (givenR (txN N0 1) 1 (nI (1)) ((C v)) ((al)) (nI 0))) / nI (100)))] [.int (if v = hv then nI 0 else (((M1.1 (16 + 4 * v + 1 + 1)) * (givenR (txN N0 1) 1 (nI (1)) ((C v)) ((al)) (nI 0))) / nI (100)) / nI 2), .int (M1.2 1), .int (nI (1)), .ref (a + 11)] h 0 0 post := by
        refine e_iadd dX4_letGo_117 ?_
        refine e_ist 1 dX4_letGo_118 hAr rfl (by omega) (by decide) ?_
        have hLp := hL.w10 hI (upd A10 1 (M1.2 1 + (if v = hv then nI 0 else M1.1 (16 + 4 * v + 1 + 1) * givenR (txN N0 1) 1 (nI 1) (C v) al (nI 0) / nI 100 / nI 2)))
        have hFp := hF.set (.inl (0, 3, .inl (upd A10 1 (M1.2 1 + (if v = hv then nI 0 else M1.1 (16 + 4 * v + 1 + 1) * givenR (txN N0 1) 1 (nI 1) (C v) al (nI 0) / nI 100 / nI 2))))) (show a ≤ a + 11 ∧ a + 11 ≤ a + 11 by omega)
        have hCrp : Row0 (h.set (a + 11) (.inl (0, 3, .inl (upd A10 1 (M1.2 1 + (if v = hv then nI 0 else M1.1 (16 + 4 * v + 1 + 1) * givenR (txN N0 1) 1 (nI 1) (C v) al (nI 0) / nI 100 / nI 2)))))) (a + 10) 8 C9 := getset hCr (by omega)
        have hArp : Row0 (h.set (a + 11) (.inl (0, 3, .inl (upd A10 1 (M1.2 1 + (if v = hv then nI 0 else M1.1 (16 + 4 * v + 1 + 1) * givenR (txN N0 1) 1 (nI 1) (C v) al (nI 0) / nI 100 / nI 2)))))) (a + 11) 3 (upd A10 1 (M1.2 1 + (if v = hv then nI 0 else M1.1 (16 + 4 * v + 1 + 1) * givenR (txN N0 1) 1 (nI 1) (C v) al (nI 0) / nI 100 / nI 2))) := getself hAr
        obtain ⟨h, hh9⟩ : ∃ z, z = h.set (a + 11) (.inl (0, 3, .inl (upd A10 1 (M1.2 1 + (if v = hv then nI 0 else M1.1 (16 + 4 * v + 1 + 1) * givenR (txN N0 1) 1 (nI 1) (C v) al (nI 0) / nI 100 / nI 2))))) := ⟨_, rfl⟩
        rw [← hh9] at hLp hFp hCrp hArp ⊢
        clear hh9
        have hF := hFp
        have hCr := hCrp
        obtain ⟨M2, hM2⟩ : ∃ z, z = goS (txN N0 1) (C v) al v hv 1 M1 := ⟨_, rfl⟩
        have hL : LB h a M2.1 := by rw [hM2]; exact hLp
        have hI : IN M2.1 := by rw [hM2]; exact hI
        have hJ : JW M2.1 N0 := by rw [hM2]; exact hJ
        have hA : ∀ w, w < 3 → upd A10 1 (M1.2 1 + (if v = hv then nI 0 else M1.1 (16 + 4 * v + 1 + 1) * givenR (txN N0 1) 1 (nI 1) (C v) al (nI 0) / nI 100 / nI 2)) w = M2.2 w := fun w hw => by
          rw [hM2]
          show upd _ _ _ _ = upd _ _ _ _
          by_cases e9 : w = 1
          · rw [e9, pk_us, pk_us]
          · rw [pk_un e9, pk_un e9]; exact hA w hw
        have hB : ∀ w, w < 3 → ∃ p : Nat, M2.2 w = nI p ∧ p ≤ 50000 * v + (if w < 2 then 50000 else 0) := fun w hw => by
          rw [hM2]
          show ∃ p : Nat, upd _ _ _ _ = nI p ∧ _
          obtain ⟨p9, hp9, hp8⟩ := hB w hw
          by_cases e9 : w = 1
          · rw [e9] at hp9 hp8
            rw [if_neg (by omega)] at hp8
            obtain ⟨r9, hr9, hr8⟩ := hgo.2
            obtain ⟨q9, hq9, hq8⟩ := half_n hr9 hr8
            rw [e9, pk_us, if_pos (show 1 < 2 by decide), hp9]
            split
            · exact ⟨p9 + 0, nI_add _ _, by omega⟩
            · rw [hq9]; exact ⟨p9 + q9, nI_add _ _, by omega⟩
          · rw [pk_un e9, hp9]
            refine ⟨p9, rfl, ?_⟩
            by_cases e8 : w < 1
            · rw [if_pos e8] at hp8; rw [if_pos (by omega)]; exact hp8
            · rw [if_neg e8] at hp8; rw [if_neg (by omega)]; exact hp8
        obtain ⟨A10, hA10⟩ : ∃ z, z = upd A10 1 (M1.2 1 + (if v = hv then nI 0 else M1.1 (16 + 4 * v + 1 + 1) * givenR (txN N0 1) 1 (nI 1) (C v) al (nI 0) / nI 100 / nI 2)) := ⟨_, rfl⟩
        rw [← hA10] at hArp hA
        have hAr := hArp
        obtain ⟨hLo, ⟨f1, hr1, he1⟩, ⟨f2, hr2, he2⟩, ⟨f3, hr3, he3⟩, ⟨T4, hr4, he4⟩, ⟨f5, hr5, he5⟩, ⟨f6, hr6, he6⟩, ⟨f7, hr7, he7⟩, ⟨R8, hr8, he8⟩, ⟨f9, hr9⟩, ⟨f10, hr10⟩, ⟨fG, hrG, heG⟩⟩ := id hL.1
        have hY := hI.1
        have hnv := hY.2.1
        have htc10 := hY.2.2.2.1
        refine e_iincN 2 dX4_letGo_119 rfl (by decide) (nI_add 1 1) ?_
        refine e_goto 44 dX4_letGo_122 (by decide) ?_
        refine e_iload dX4_letGo_44 rfl ?_
        refine e_iconst (nI (3)) dX4_letGo_46 (by decide) ?_
        refine e_icmp_geN 125 dX4_letGo_47 (by decide) (by omega) (by omega) (fun hcq47 => absurd hcq47 (by decide)) (fun hcq47 => ?_)
        refine e_iconst (nI (3)) dX4_letGo_50 (by decide) ?_
        refine e_iload_n dX4_letGo_51 rfl ?_
        refine e_imulN dX4_letGo_52 ?_
        refine e_iload dX4_letGo_53 rfl ?_
        refine e_iaddN dX4_letGo_55 ?_
        refine e_istore dX4_letGo_56 (by decide) ?_
        show Ev D 3 mX4_letGo 58 [some (.ref (a)), some (.int (nI (hv))), some (.int (nI (v))), some (.int (al)), some (.int (nI (2))), some (.int (nI ((3 * v) + 2))), some (.int (((M1.1 (16 + 4 * v + 1 + 1)) * (givenR (txN N0 1) 1 (nI (1)) ((C v)) ((al)) (nI 0))) / nI (100)))] [] h 0 0 post
        refine e_aload_n dX4_letGo_58 rfl ?_
        refine e_get dX4_letGo_59 fl_X4_31_4 hLo rfl ?_
        refine e_iload dX4_letGo_62 rfl ?_
        refine e_ild ((3 * v) + 2) ((M2.1 (16 + 4 * v + 1 + 2))) dX4_letGo_64 hr2 rfl (by omega) (by decide) (he2 v (by omega) 2 (by decide)) ?_
        refine e_aload_n dX4_letGo_65 rfl ?_
        refine e_iload dX4_letGo_66 rfl ?_
        refine e_aload_n dX4_letGo_68 rfl ?_
        refine e_get dX4_letGo_69 fl_X4_69_4 hLo rfl ?_
        refine e_iload_n dX4_letGo_72 rfl ?_
        refine e_ild (v) ((C v)) dX4_letGo_73 hCr rfl (by omega) (by decide) (hCe _ (by omega)) ?_
        refine e_iload_n dX4_letGo_74 rfl ?_
        refine c_V3i (nc := 0) (ns := 0) (mc := 0) (ms := 0) (N := mX4_shareToGo) dX4_letGo_75 lv_X4_178 mo_X4_shareToGo hL.1.cn (Nat.le_of_ble_eq_true rfl) (Nat.le_of_ble_eq_true rfl) (by decide) (k_shareToGo D hL.1 hI (nI (2)) ((C v)) ((al))) (fun h hP => ?_)
        have hlo : ∀ x, x < 104 → h[x]? = _ := fun x hx => hP.lo hL.2.1 hx
        have hCr : Row0 h (a + 10) 8 C9 := (hlo _ (by omega)).trans hCr
        have hAr : Row0 h (a + 11) 3 A10 := (hlo _ (by omega)).trans hAr
        have hF := hF.pr hL.2.1 hL.2.2 hP
        have hL := hL.pr_ hP
        obtain ⟨hLo, ⟨f1, hr1, he1⟩, ⟨f2, hr2, he2⟩, ⟨f3, hr3, he3⟩, ⟨T4, hr4, he4⟩, ⟨f5, hr5, he5⟩, ⟨f6, hr6, he6⟩, ⟨f7, hr7, he7⟩, ⟨R8, hr8, he8⟩, ⟨f9, hr9⟩, ⟨f10, hr10⟩, ⟨fG, hrG, heG⟩⟩ := id hL.1
        have hY := hI.1
        have hnv := hY.2.1
        have htc10 := hY.2.2.2.1
        refine e_top (givenR (txN N0 1) 1 (nI (2)) ((C v)) ((al)) (nI 0)) (by rw [hJ.tx]) ?_
        refine e_imul dX4_letGo_78 ?_
        refine e_bipush (nI (100)) dX4_letGo_79 (by decide) ?_
        refine e_idiv dX4_letGo_81 (by decide) ?_
        refine e_istore dX4_letGo_82 (by decide) ?_
        show Ev D 3 mX4_letGo 84 [some (.ref (a)), some (.int (nI (hv))), some (.int (nI (v))), some (.int (al)), some (.int (nI (2))), some (.int (nI ((3 * v) + 2))), some (.int (((M2.1 (16 + 4 * v + 1 + 2)) * (givenR (txN N0 1) 1 (nI (2)) ((C v)) ((al)) (nI 0))) / nI (100)))] [] h 0 0 post
        refine e_aload_n dX4_letGo_84 rfl ?_
        refine e_get dX4_letGo_85 fl_X4_31_4 hLo rfl ?_
        refine e_iload dX4_letGo_88 rfl ?_
        refine e_dup2 dX4_letGo_90 rfl rfl ?_
        refine e_ild ((3 * v) + 2) ((M2.1 (16 + 4 * v + 1 + 2))) dX4_letGo_91 hr2 rfl (by omega) (by decide) (he2 v (by omega) 2 (by decide)) ?_
        refine e_iload dX4_letGo_92 rfl ?_
        refine e_isub dX4_letGo_94 ?_
        have hgo := go_eq (hI.2.2.2.1.1 v (by omega) 2 (by decide)) (rg_gv1 (txN N0 1) (nI 2) (C v) al (nI 0))
        refine e_top (chg (M2.1 (16 + 4 * v + 1 + 2)) (-(M2.1 (16 + 4 * v + 1 + 2) * givenR (txN N0 1) 1 (nI 2) (C v) al (nI 0) / nI 100)).toInt64) hgo.1 ?_
        refine e_ist (3 * v + 2) dX4_letGo_95 hr2 rfl (by omega) (by decide) ?_
        have hLp := hL.pe hI hr2 (v := v) (w := 2) (by omega) (by decide) (chg (M2.1 (16 + 4 * v + 1 + 2)) (-(M2.1 (16 + 4 * v + 1 + 2) * givenR (txN N0 1) 1 (nI 2) (C v) al (nI 0) / nI 100)).toInt64)
        have hFp := hF.set (.inl (0, 24, .inl (upd f2 (3 * v + 2) (chg (M2.1 (16 + 4 * v + 1 + 2)) (-(M2.1 (16 + 4 * v + 1 + 2) * givenR (txN N0 1) 1 (nI 2) (C v) al (nI 0) / nI 100)).toInt64)))) (show a ≤ a + 2 ∧ a + 2 ≤ a + 11 by omega)
        have hI := IN_pe hI (v := v) (w := 2) (x := chg (M2.1 (16 + 4 * v + 1 + 2)) (-(M2.1 (16 + 4 * v + 1 + 2) * givenR (txN N0 1) 1 (nI 2) (C v) al (nI 0) / nI 100)).toInt64) (by omega) (by decide) (rg_chg _ _)
        have hJ := hJ.pe (v := v) (w := 2) (x := chg (M2.1 (16 + 4 * v + 1 + 2)) (-(M2.1 (16 + 4 * v + 1 + 2) * givenR (txN N0 1) 1 (nI 2) (C v) al (nI 0) / nI 100)).toInt64) (by omega) (by decide) (rg_chg _ _)
        have hCrp : Row0 (h.set (a + 2) (.inl (0, 24, .inl (upd f2 (3 * v + 2) (chg (M2.1 (16 + 4 * v + 1 + 2)) (-(M2.1 (16 + 4 * v + 1 + 2) * givenR (txN N0 1) 1 (nI 2) (C v) al (nI 0) / nI 100)).toInt64))))) (a + 10) 8 C9 := getset hCr (by omega)
        have hArp : Row0 (h.set (a + 2) (.inl (0, 24, .inl (upd f2 (3 * v + 2) (chg (M2.1 (16 + 4 * v + 1 + 2)) (-(M2.1 (16 + 4 * v + 1 + 2) * givenR (txN N0 1) 1 (nI 2) (C v) al (nI 0) / nI 100)).toInt64))))) (a + 11) 3 A10 := getset hAr (by omega)
        obtain ⟨h, hh9⟩ : ∃ z, z = h.set (a + 2) (.inl (0, 24, .inl (upd f2 (3 * v + 2) (chg (M2.1 (16 + 4 * v + 1 + 2)) (-(M2.1 (16 + 4 * v + 1 + 2) * givenR (txN N0 1) 1 (nI 2) (C v) al (nI 0) / nI 100)).toInt64)))) := ⟨_, rfl⟩
        rw [← hh9] at hLp hFp hCrp hArp ⊢
        clear hh9
        have hL := hLp
        have hF := hFp
        have hCr := hCrp
        have hAr := hArp
        obtain ⟨hLo, -, -, -, -, -, -, -, -, -, -⟩ := id hL.1
        refine e_aload_n dX4_letGo_96 rfl ?_
        refine e_get dX4_letGo_97 fl_X4_72_4 hLo rfl ?_
        refine e_iload dX4_letGo_100 rfl ?_
        refine e_dup2 dX4_letGo_102 rfl rfl ?_
        refine e_ild (2) ((M2.2 2)) dX4_letGo_103 hAr rfl (by omega) (by decide) (hA _ (by decide)) ?_
        refine e_iload_n dX4_letGo_104 rfl ?_
        refine e_iload_n dX4_letGo_105 rfl ?_
        have K3 : Ev D 3 mX4_letGo 117 [some (.ref (a)), some (.int (nI (hv))), some (.int (nI (v))), some (.int (al)), some (.int (nI (2))), some (.int (nI ((3 * v) + 2))), some (.int (((M2.1 (16 + 4 * v + 1 + 2)) * (givenR (txN N0 1) 1 (nI (2)) ((C v)) ((al)) (nI 0))) / nI (100)))] [.int (if v = hv then nI 0 else (((M2.1 (16 + 4 * v + 1 + 2)) * (givenR (txN N0 1) 1 (nI (2)) ((C v)) ((al)) (nI 0))) / nI (100)) / nI 2), .int (M2.2 2), .int (nI (2)), .ref (a + 11)] h 0 0 post := by
          refine e_iadd dX4_letGo_117 ?_
          refine e_ist 2 dX4_letGo_118 hAr rfl (by omega) (by decide) ?_
          have hLp := hL.w10 hI (upd A10 2 (M2.2 2 + (if v = hv then nI 0 else M2.1 (16 + 4 * v + 1 + 2) * givenR (txN N0 1) 1 (nI 2) (C v) al (nI 0) / nI 100 / nI 2)))
          have hFp := hF.set (.inl (0, 3, .inl (upd A10 2 (M2.2 2 + (if v = hv then nI 0 else M2.1 (16 + 4 * v + 1 + 2) * givenR (txN N0 1) 1 (nI 2) (C v) al (nI 0) / nI 100 / nI 2))))) (show a ≤ a + 11 ∧ a + 11 ≤ a + 11 by omega)
          have hCrp : Row0 (h.set (a + 11) (.inl (0, 3, .inl (upd A10 2 (M2.2 2 + (if v = hv then nI 0 else M2.1 (16 + 4 * v + 1 + 2) * givenR (txN N0 1) 1 (nI 2) (C v) al (nI 0) / nI 100 / nI 2)))))) (a + 10) 8 C9 := getset hCr (by omega)
          have hArp : Row0 (h.set (a + 11) (.inl (0, 3, .inl (upd A10 2 (M2.2 2 + (if v = hv then nI 0 else M2.1 (16 + 4 * v + 1 + 2) * givenR (txN N0 1) 1 (nI 2) (C v) al (nI 0) / nI 100 / nI 2)))))) (a + 11) 3 (upd A10 2 (M2.2 2 + (if v = hv then nI 0 else M2.1 (16 + 4 * v + 1 + 2) * givenR (txN N0 1) 1 (nI 2) (C v) al (nI 0) / nI 100 / nI 2))) := getself hAr
          obtain ⟨h, hh9⟩ : ∃ z, z = h.set (a + 11) (.inl (0, 3, .inl (upd A10 2 (M2.2 2 + (if v = hv then nI 0 else M2.1 (16 + 4 * v + 1 + 2) * givenR (txN N0 1) 1 (nI 2) (C v) al (nI 0) / nI 100 / nI 2))))) := ⟨_, rfl⟩
          rw [← hh9] at hLp hFp hCrp hArp ⊢
          clear hh9
          have hF := hFp
          have hCr := hCrp
          obtain ⟨M3, hM3⟩ : ∃ z, z = goS (txN N0 1) (C v) al v hv 2 M2 := ⟨_, rfl⟩
          have hL : LB h a M3.1 := by rw [hM3]; exact hLp
          have hI : IN M3.1 := by rw [hM3]; exact hI
          have hJ : JW M3.1 N0 := by rw [hM3]; exact hJ
          have hA : ∀ w, w < 3 → upd A10 2 (M2.2 2 + (if v = hv then nI 0 else M2.1 (16 + 4 * v + 1 + 2) * givenR (txN N0 1) 1 (nI 2) (C v) al (nI 0) / nI 100 / nI 2)) w = M3.2 w := fun w hw => by
            rw [hM3]
            show upd _ _ _ _ = upd _ _ _ _
            by_cases e9 : w = 2
            · rw [e9, pk_us, pk_us]
            · rw [pk_un e9, pk_un e9]; exact hA w hw
          have hB : ∀ w, w < 3 → ∃ p : Nat, M3.2 w = nI p ∧ p ≤ 50000 * v + (if w < 3 then 50000 else 0) := fun w hw => by
            rw [hM3]
            show ∃ p : Nat, upd _ _ _ _ = nI p ∧ _
            obtain ⟨p9, hp9, hp8⟩ := hB w hw
            by_cases e9 : w = 2
            · rw [e9] at hp9 hp8
              rw [if_neg (by omega)] at hp8
              obtain ⟨r9, hr9, hr8⟩ := hgo.2
              obtain ⟨q9, hq9, hq8⟩ := half_n hr9 hr8
              rw [e9, pk_us, if_pos (show 2 < 3 by decide), hp9]
              split
              · exact ⟨p9 + 0, nI_add _ _, by omega⟩
              · rw [hq9]; exact ⟨p9 + q9, nI_add _ _, by omega⟩
            · rw [pk_un e9, hp9]
              refine ⟨p9, rfl, ?_⟩
              by_cases e8 : w < 2
              · rw [if_pos e8] at hp8; rw [if_pos (by omega)]; exact hp8
              · rw [if_neg e8] at hp8; rw [if_neg (by omega)]; exact hp8
          obtain ⟨A10, hA10⟩ : ∃ z, z = upd A10 2 (M2.2 2 + (if v = hv then nI 0 else M2.1 (16 + 4 * v + 1 + 2) * givenR (txN N0 1) 1 (nI 2) (C v) al (nI 0) / nI 100 / nI 2)) := ⟨_, rfl⟩
          rw [← hA10] at hArp hA
          have hAr := hArp
          obtain ⟨hLo, ⟨f1, hr1, he1⟩, ⟨f2, hr2, he2⟩, ⟨f3, hr3, he3⟩, ⟨T4, hr4, he4⟩, ⟨f5, hr5, he5⟩, ⟨f6, hr6, he6⟩, ⟨f7, hr7, he7⟩, ⟨R8, hr8, he8⟩, ⟨f9, hr9⟩, ⟨f10, hr10⟩, ⟨fG, hrG, heG⟩⟩ := id hL.1
          have hY := hI.1
          have hnv := hY.2.1
          have htc10 := hY.2.2.2.1
          refine e_iincN 3 dX4_letGo_119 rfl (by decide) (nI_add 2 1) ?_
          refine e_goto 44 dX4_letGo_122 (by decide) ?_
          refine e_iload dX4_letGo_44 rfl ?_
          refine e_iconst (nI (3)) dX4_letGo_46 (by decide) ?_
          refine e_icmp_geN 125 dX4_letGo_47 (by decide) (by omega) (by omega) (fun hcq47 => ?_) (fun hcq47 => absurd hcq47 (by decide))
          refine e_iincN (v + 1) dX4_letGo_125 rfl (by decide) (nI_add _ _) ?_
          refine e_goto 27 dX4_letGo_128 (by decide) ?_
          refine Ev.drop 3 (Ev.drop 4 (Ev.drop 5 (Ev.drop 6 ?_)))
          exact ih (v + 1) h M3 (by omega) (by rw [goV, ← hM, ← hal, ← hM1, ← hM2, ← hM3]) ⟨hL, hI, hF, hJ, hCr, ⟨A10, hAr, hA⟩, fun w hw => by obtain ⟨p9, hp9, hp8⟩ := hB w hw; rw [if_pos (by omega)] at hp8; exact ⟨p9, hp9, by show p9 ≤ 50000 * (v + 1); omega⟩⟩
        refine e_icmp_neN 113 dX4_letGo_106 (by decide) (by omega) (by omega) (fun hcq106 => ?_) (fun hcq106 => ?_)
        · refine e_iload dX4_letGo_113 rfl ?_
          refine e_iconst (nI (2)) dX4_letGo_115 (by decide) ?_
          refine e_idiv dX4_letGo_116 (by decide) ?_
          exact e_top ((if v = hv then nI 0 else (((M2.1 (16 + 4 * v + 1 + 2)) * (givenR (txN N0 1) 1 (nI (2)) ((C v)) ((al)) (nI 0))) / nI (100)) / nI 2)) (by first | exact (if_pos (by assumption)).symm | exact (if_neg (by assumption)).symm | exact (b2_t (by assumption)).symm | exact (b2_f (by assumption)).symm | simp_all [b2]) K3
        · refine e_iconst (nI (0)) dX4_letGo_109 (by decide) ?_
          refine e_goto 117 dX4_letGo_110 (by decide) ?_
          exact e_top ((if v = hv then nI 0 else (((M2.1 (16 + 4 * v + 1 + 2)) * (givenR (txN N0 1) 1 (nI (2)) ((C v)) ((al)) (nI 0))) / nI (100)) / nI 2)) (by first | exact (if_pos (by assumption)).symm | exact (if_neg (by assumption)).symm | exact (b2_t (by assumption)).symm | exact (b2_f (by assumption)).symm | simp_all [b2]) K3
      refine e_icmp_neN 113 dX4_letGo_106 (by decide) (by omega) (by omega) (fun hcq106 => ?_) (fun hcq106 => ?_)
      · refine e_iload dX4_letGo_113 rfl ?_
        refine e_iconst (nI (2)) dX4_letGo_115 (by decide) ?_
        refine e_idiv dX4_letGo_116 (by decide) ?_
        exact e_top ((if v = hv then nI 0 else (((M1.1 (16 + 4 * v + 1 + 1)) * (givenR (txN N0 1) 1 (nI (1)) ((C v)) ((al)) (nI 0))) / nI (100)) / nI 2)) (by first | exact (if_pos (by assumption)).symm | exact (if_neg (by assumption)).symm | exact (b2_t (by assumption)).symm | exact (b2_f (by assumption)).symm | simp_all [b2]) K2
      · refine e_iconst (nI (0)) dX4_letGo_109 (by decide) ?_
        refine e_goto 117 dX4_letGo_110 (by decide) ?_
        exact e_top ((if v = hv then nI 0 else (((M1.1 (16 + 4 * v + 1 + 1)) * (givenR (txN N0 1) 1 (nI (1)) ((C v)) ((al)) (nI 0))) / nI (100)) / nI 2)) (by first | exact (if_pos (by assumption)).symm | exact (if_neg (by assumption)).symm | exact (b2_t (by assumption)).symm | exact (b2_f (by assumption)).symm | simp_all [b2]) K2
    refine e_icmp_neN 113 dX4_letGo_106 (by decide) (by omega) (by omega) (fun hcq106 => ?_) (fun hcq106 => ?_)
    · refine e_iload dX4_letGo_113 rfl ?_
      refine e_iconst (nI (2)) dX4_letGo_115 (by decide) ?_
      refine e_idiv dX4_letGo_116 (by decide) ?_
      exact e_top ((if v = hv then nI 0 else (((M.1 (16 + 4 * v + 1 + 0)) * (givenR (txN N0 1) 1 (nI (0)) ((C v)) ((al)) (nI 0))) / nI (100)) / nI 2)) (by first | exact (if_pos (by assumption)).symm | exact (if_neg (by assumption)).symm | exact (b2_t (by assumption)).symm | exact (b2_f (by assumption)).symm | simp_all [b2]) K1
    · refine e_iconst (nI (0)) dX4_letGo_109 (by decide) ?_
      refine e_goto 117 dX4_letGo_110 (by decide) ?_
      exact e_top ((if v = hv then nI 0 else (((M.1 (16 + 4 * v + 1 + 0)) * (givenR (txN N0 1) 1 (nI (0)) ((C v)) ((al)) (nI 0))) / nI (100)) / nI 2)) (by first | exact (if_pos (by assumption)).symm | exact (if_neg (by assumption)).symm | exact (b2_t (by assumption)).symm | exact (b2_f (by assumption)).symm | simp_all [b2]) K1
