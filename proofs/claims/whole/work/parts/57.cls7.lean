/-! people's numbers: the reference's clamp and the class's -/
theorem i32_eq {x y : Int32} (h : x.toInt = y.toInt) : x = y := Int32.toInt_inj.mp h
theorem toI_add {x y : Int32} {p q : Int} (hx : x.toInt = p) (hy : y.toInt = q) (h1 : -2147483648 ≤ p + q) (h2 : p + q < 2147483648) : (x + y).toInt = p + q := by
  rw [Int32.toInt_add, hx, hy]
  exact Int.bmod_eq_of_le (by omega) (by omega)
theorem toI_sub {x y : Int32} {p q : Int} (hx : x.toInt = p) (hy : y.toInt = q) (h1 : -2147483648 ≤ p - q) (h2 : p - q < 2147483648) : (x - y).toInt = p - q := by
  rw [Int32.toInt_sub, hx, hy]
  exact Int.bmod_eq_of_le (by omega) (by omega)
theorem toI_neg {x : Int32} {p : Int} (hx : x.toInt = p) (h1 : -2147483648 < p) (h2 : p < 2147483648) : (-x).toInt = -p := by
  rw [Int32.toInt_neg, hx]
  exact Int.bmod_eq_of_le (by omega) (by omega)
theorem chg_of {x z : Int32} {p d : Int} (hx : x.toInt = p) (hz : z.toInt = d) (h0 : 0 ≤ p) (h1 : p ≤ 99999) (h2 : 0 ≤ p + d) (h3 : d < 2000000) : chg x z.toInt64 = minI (nI 99999) (x + z) := by
  have e1 : (x.toInt64 + z.toInt64).toInt = p + d := by
    rw [Int64.toInt_add, Int32.toInt_toInt64, Int32.toInt_toInt64, hx, hz]
    exact Int.bmod_eq_of_le (by omega) (by omega)
  have e2 : (x + z).toInt = p + d := toI_add hx hz (by omega) (by omega)
  have e9 : (99999 : Int64).toInt = 99999 := by decide
  have e0 : (0 : Int64).toInt = 0 := by decide
  have n9 : (nI 99999).toInt = 99999 := by decide
  unfold chg minI
  by_cases y : p + d < 99999
  · have c1 : x.toInt64 + z.toInt64 < 99999 := Int64.lt_iff_toInt_lt.mpr (by rw [e1, e9]; exact y)
    have c2 : ¬ x.toInt64 + z.toInt64 < 0 := fun q => by
      have := Int64.lt_iff_toInt_lt.mp q
      rw [e1, e0] at this
      omega
    have c3 : x + z < nI 99999 := Int32.lt_iff_toInt_lt.mpr (by rw [e2, n9]; exact y)
    rw [if_pos c1, if_neg c2, if_pos c3]
    apply i32_eq
    rw [e2, Int64.toInt_toInt32, e1]
    exact Int.bmod_eq_of_le (by omega) (by omega)
  · have c1 : ¬ x.toInt64 + z.toInt64 < 99999 := fun q => by
      have := Int64.lt_iff_toInt_lt.mp q
      rw [e1, e9] at this
      exact y this
    have c3 : ¬ x + z < nI 99999 := fun q => by
      have := Int32.lt_iff_toInt_lt.mp q
      rw [e2, n9] at this
      exact y this
    rw [if_neg c1, if_neg (show ¬ (99999 : Int64) < 0 by decide), if_neg c3]
    decide
theorem rg_toI {x : Int32} {m : Nat} (h : rg x m) (hm : m < 2 ^ 31) : ∃ p : Nat, x = nI p ∧ p ≤ m := by
  obtain ⟨a, -, b⟩ := wiN h hm (by decide)
  exact ⟨_, a, b⟩
theorem minI_id {x : Int32} {p : Nat} (hx : x = nI p) (hp : p ≤ 99999) : minI (nI 99999) x = x := by
  unfold minI
  by_cases y : x < nI 99999
  · rw [if_pos y]
  · rw [if_neg y]
    have := Int32.not_lt.mp y
    rw [hx, nI_leI (by decide) (by omega)] at this
    rw [hx, show p = 99999 by omega]
theorem rg_held (x : Int32) (m : Nat) (hm : m < 2 ^ 31) : rg (heldR x (nI m)) m := by
  unfold heldR
  have key : ∀ y : Int32, y ≤ nI m → rg (if nI 0 < y then y else nI 0) m := by
    intro y hy
    split
    · rename_i z; exact ⟨Int32.le_of_lt z, hy⟩
    · exact rg_nI (by omega) hm
  apply key
  split
  · rename_i z; exact Int32.le_of_lt z
  · exact Int32.le_refl _
theorem rg_gv1 (w : List Nat) (a b c d : Int32) : rg (givenR w 1 a b c d) 100 := rg_held _ 100 (by decide)
theorem rg_gv2 (w : List Nat) (a b c d : Int32) : rg (givenR w 2 a b c d) 20 := rg_held _ 20 (by decide)
/-- so much of a hundred -/
theorem pct {x s : Int32} {p q : Nat} (hx : x = nI p) (hs : s = nI q) (hp : p ≤ 300000) (hq : q ≤ 100) : x * s / nI 100 = nI (p * q / 100) ∧ p * q / 100 ≤ p := by
  have h1 : p * q ≤ p * 100 := Nat.mul_le_mul_left p hq
  refine ⟨?_, by omega⟩
  rw [hx, hs, pk_mul, pk_div (by omega) (by decide) (by decide)]
/-! frames -/
def FY (a : Nat) (h h' : AH) : Prop := h'.length = h.length ∧ ∀ x, h'[x]? = h[x]? ∨ (a ≤ x ∧ x ≤ a + 11 ∧ x ≠ a + 4) ∨ (SK h x ∧ ∃ k, Row0 h' x 50 k)
theorem FY.rf {a : Nat} {h : AH} : FY a h h := ⟨rfl, fun _ => Or.inl rfl⟩
theorem FY.pr {a : Nat} {h h1 h2 : AH} (f : FY a h h1) (hB : RB h1) (ha : a + 11 < 101) (p : PR h1 h2) : FY a h h2 := by
  refine ⟨p.1.trans f.1, fun x => ?_⟩
  rcases p.2 x with e | ⟨⟨e3, fs, es⟩, e⟩
  · rcases f.2 x with q | q | ⟨q, k, hk⟩
    · exact Or.inl (e.trans q)
    · exact Or.inr (Or.inl q)
    · exact Or.inr (Or.inr ⟨q, k, by rw [Row0, e]; exact hk⟩)
  · have h97 := (hB _ fs es).1
    rcases f.2 (x - 3) with q | q | ⟨q, k, hk⟩
    · exact Or.inr (Or.inr ⟨⟨e3, fs, by rw [← q]; exact es⟩, e⟩)
    · omega
    · rw [Row0, es] at hk; cases hk
theorem FY.set {a : Nat} {h h1 : AH} (f : FY a h h1) {j : Nat} (c : AC) (hj : a ≤ j ∧ j ≤ a + 11) (h4 : j ≠ a + 4 := by omega) : FY a h (h1.set j c) := by
  refine ⟨List.length_set.trans f.1, fun x => ?_⟩
  by_cases e : j = x
  · subst e; exact Or.inr (Or.inl ⟨hj.1, hj.2, h4⟩)
  · rcases f.2 x with q | q | ⟨q, k, hk⟩
    · exact Or.inl ((List.getElem?_set_ne e).trans q)
    · exact Or.inr (Or.inl q)
    · exact Or.inr (Or.inr ⟨q, k, by rw [Row0, List.getElem?_set_ne e]; exact hk⟩)
theorem FY.trans {a : Nat} {h h1 h2 : AH} (f : FY a h h1) (hB : RB h1) (ha : a + 11 < 101) (g : FY a h1 h2) : FY a h h2 := by
  refine ⟨g.1.trans f.1, fun x => ?_⟩
  rcases g.2 x with e | e | ⟨⟨e3, fs, es⟩, e⟩
  · rcases f.2 x with q | q | ⟨q, k, hk⟩
    · exact Or.inl (e.trans q)
    · exact Or.inr (Or.inl q)
    · exact Or.inr (Or.inr ⟨q, k, by rw [Row0, e]; exact hk⟩)
  · exact Or.inr (Or.inl e)
  · have h97 := (hB _ fs es).1
    rcases f.2 (x - 3) with q | q | ⟨q, k, hk⟩
    · exact Or.inr (Or.inr ⟨⟨e3, fs, by rw [← q]; exact es⟩, e⟩)
    · omega
    · rw [Row0, es] at hk; cases hk
theorem JW.ag {N N' N0 : Nat → Int32} (hJ : JW N N0) : nvN N = nvN N0 ∧ tcN N = tcN N0 ∧ txN N = txN N0 := ⟨hJ.nv, hJ.tc, hJ.tx⟩
theorem LB.set {h : AH} {a : Nat} {N : Nat → Int32} (hL : LB h a N) {N' : Nat → Int32} {j : Nat} {c : AC} (hj : j < 101) (hc : ∀ fs, c ≠ .inr (6, fs)) (hL' : LandAt (h.set j c) a N') : LB (h.set j c) a N' := ⟨hL', hL.2.1.set hj hc, hL.2.2⟩
set_option maxRecDepth 20000 in
theorem kl_shut (D : En) {a : Nat} {post : Option Value → AH → Prop} {N0 : Nat → Int32} {h0 : AH} (hp : ∀ h', LB h' a (shW N0 (nvN N0) (txN N0 0) (tcN N0)) → IN (shW N0 (nvN N0) (txN N0 0) (tcN N0)) → FY a h0 h' → JW (shW N0 (nvN N0) (txN N0 0) (tcN N0)) N0 → post none h') : ∀ (j : Nat) (t : Nat) (h : AH) (N : Nat → Int32), (t + j = tcN N0) → (LB h a N) → (IN N) → (FY a h0 h) → (JW N N0) → (N = shW N0 (nvN N0) (txN N0 0) t) → Ev D 5 mX4_shutByRule 2 [some (.ref (a)), some (.int (nI (t))), none, none] [] h 0 0 post := by
  intro j
  induction j with
  | zero =>
    intro t h N hm hL hI hF hJ hN
    obtain ⟨hLo, ⟨f1, hr1, he1⟩, ⟨f2, hr2, he2⟩, ⟨f3, hr3, he3⟩, ⟨T4, hr4, he4⟩, ⟨f5, hr5, he5⟩, ⟨f6, hr6, he6⟩, ⟨f7, hr7, he7⟩, ⟨R8, hr8, he8⟩, ⟨f9, hr9⟩, ⟨f10, hr10⟩, ⟨fG, hrG, heG⟩⟩ := id hL.1
    have hY := hI.1
    have hnv := hY.2.1
    have htc10 := hY.2.2.2.1
    have htcE := hJ.tc
    refine e_iload_n dX4_shutByRule_2 rfl ?_
    refine e_aload_n dX4_shutByRule_3 rfl ?_
    refine e_get dX4_shutByRule_4 fl_X4_21_4 hLo rfl ?_
    refine e_top (nI (tcN N)) hY.2.2.1 ?_
    refine e_icmp_geN 89 dX4_shutByRule_7 (by decide) (by omega) (by omega) (fun hcq7 => ?_) (fun hcq7 => absurd hcq7 (by omega))
    rw [show t = tcN N0 by omega] at hN
    exact e_vret dX4_shutByRule_89 rfl (hp h (by rw [← hN]; exact hL) (by rw [← hN]; exact hI) hF (by rw [← hN]; exact hJ))
  | succ j ih =>
    intro t h N hm hL hI hF hJ hN
    obtain ⟨hLo, ⟨f1, hr1, he1⟩, ⟨f2, hr2, he2⟩, ⟨f3, hr3, he3⟩, ⟨T4, hr4, he4⟩, ⟨f5, hr5, he5⟩, ⟨f6, hr6, he6⟩, ⟨f7, hr7, he7⟩, ⟨R8, hr8, he8⟩, ⟨f9, hr9⟩, ⟨f10, hr10⟩, ⟨fG, hrG, heG⟩⟩ := id hL.1
    have hY := hI.1
    have hnv := hY.2.1
    have htc10 := hY.2.2.2.1
    have htcE := hJ.tc
    refine e_iload_n dX4_shutByRule_2 rfl ?_
    refine e_aload_n dX4_shutByRule_3 rfl ?_
    refine e_get dX4_shutByRule_4 fl_X4_21_4 hLo rfl ?_
    refine e_top (nI (tcN N)) hY.2.2.1 ?_
    refine e_icmp_geN 89 dX4_shutByRule_7 (by decide) (by omega) (by omega) (fun hcq7 => absurd hcq7 (by omega)) (fun hcq7 => ?_)
    refine e_aload_n dX4_shutByRule_10 rfl ?_
    refine e_iload_n dX4_shutByRule_11 rfl ?_
    refine c_V1iR (N := mX4_isOpen) dX4_shutByRule_12 lv_X4_126 mo_X4_isOpen hL.1.cn (Nat.le_of_ble_eq_true rfl) (Nat.le_of_ble_eq_true rfl) (by decide) (k_isOpen D hL.1 hI (t) (by omega)) ?_
    refine e_if_eqB 83 dX4_shutByRule_15 (by decide) (fun hcq15 => ?_) (fun hcq15 => ?_)
    · refine e_iincN (t + 1) dX4_shutByRule_83 rfl (by decide) (nI_add _ _) ?_
      refine e_goto 2 dX4_shutByRule_86 (by decide) ?_
      refine Ev.drop 2 (Ev.drop 3 ?_)
      exact ih (t + 1) h N (by omega) hL hI hF hJ (by rw [shW, ← hN, if_neg (fun zz : shC N (nvN N0) (txN N0 0) t => by first | exact hcq15 zz.1 | exact hcq28 zz.2.1 | (have z8 := zz.2.2; rw [← hJ.nv, ← hJ.tx] at z8; exact z8 hcq74))])
    · refine e_aload_n dX4_shutByRule_18 rfl ?_
      refine e_get dX4_shutByRule_19 fl_X4_43_4 hLo rfl ?_
      refine e_iload_n dX4_shutByRule_22 rfl ?_
      refine e_ild (t) ((N (112 + 7 * t + 6))) dX4_shutByRule_23 hr5 rfl (by omega) (by decide) (he5 _ (by omega)) ?_
      refine e_aload_n dX4_shutByRule_24 rfl ?_
      refine e_get dX4_shutByRule_25 fl_X4_9_4 hLo rfl ?_
      refine e_icmp_lt 34 dX4_shutByRule_28 (by decide) (fun hcq28 => ?_) (fun hcq28 => ?_)
      · refine e_aload_n dX4_shutByRule_34 rfl ?_
        refine e_get dX4_shutByRule_35 fl_X4_39_4 hLo rfl ?_
        refine e_iload_n dX4_shutByRule_38 rfl ?_
        obtain ⟨b39, hTb39, hb39⟩ := he4 (t) (by omega)
        refine e_ald (v := some b39) (t) dX4_shutByRule_39 hr4 (Or.inl rfl) rfl (by omega) (by decide) hTb39 ?_
        refine e_astore_n dX4_shutByRule_40 (by decide) ?_
        refine e_aload_n dX4_shutByRule_41 rfl ?_
        refine e_aload_n dX4_shutByRule_42 rfl ?_
        refine e_aload_n dX4_shutByRule_43 rfl ?_
        refine tf_get1 dX4_shutByRule_44 tl_X4_106 hb39 ?_
        refine e_top (nI (atN N t)) (hY.2.2.2.2.1 _ (by omega)).2.2.1 ?_
        refine e_aload_n dX4_shutByRule_47 rfl ?_
        refine e_get dX4_shutByRule_48 fl_X4_46_4 hLo rfl ?_
        refine e_iload_n dX4_shutByRule_51 rfl ?_
        refine e_ild (t) ((servedR N (nvN N) t)) dX4_shutByRule_52 hr6 rfl (by omega) (by decide) (he6 _ (by omega)) ?_
        refine vu_X4_164 rfl dX4_shutByRule_53 hL.1 hI hb39 (hY.2.2.2.2.1 _ (by omega)).2.1 (N (112 + 7 * t + 4)) (hY.2.2.2.2.1 _ (by omega)).2.2.2 (fun w hw => svB_t hnv hw) (Nat.le_of_ble_eq_true rfl) (by decide) ?_
        refine e_istore_n dX4_shutByRule_56 (by decide) ?_
        refine e_aload_n dX4_shutByRule_57 rfl ?_
        refine e_iload_n dX4_shutByRule_58 rfl ?_
        refine e_aload_n dX4_shutByRule_59 rfl ?_
        refine tf_get3 dX4_shutByRule_60 tl_X4_168 hb39 ?_
        refine e_aload_n dX4_shutByRule_63 rfl ?_
        refine tf_get2 dX4_shutByRule_64 tl_X4_123 hb39 ?_
        refine e_aload_n dX4_shutByRule_67 rfl ?_
        refine e_get dX4_shutByRule_68 fl_X4_9_4 hLo rfl ?_
        refine c_V4i (nc := 0) (ns := 0) (mc := 0) (ms := 0) (N := mX4_isToShut) dX4_shutByRule_71 lv_X4_171 mo_X4_isToShut hL.1.cn (Nat.le_of_ble_eq_true rfl) (Nat.le_of_ble_eq_true rfl) (by decide) (k_isToShut D hL.1 hI ((usersR N (nvN N) (kdN N t) (N (112 + 7 * t + 4)) (atN N t))) ((N (112 + 7 * t + 3))) ((N (112 + 7 * t + 2))) ((N 0))) (fun h hP => ?_)
        have hF := hF.pr hL.2.1 hL.2.2 hP
        have hL := hL.pr_ hP
        obtain ⟨hLo, ⟨f1, hr1, he1⟩, ⟨f2, hr2, he2⟩, ⟨f3, hr3, he3⟩, ⟨T4, hr4, he4⟩, ⟨f5, hr5, he5⟩, ⟨f6, hr6, he6⟩, ⟨f7, hr7, he7⟩, ⟨R8, hr8, he8⟩, ⟨f9, hr9⟩, ⟨f10, hr10⟩, ⟨fG, hrG, heG⟩⟩ := id hL.1
        have hY := hI.1
        have hnv := hY.2.1
        have htc10 := hY.2.2.2.1
        refine e_if_eq 83 dX4_shutByRule_74 (by decide) (fun hcq74 => ?_) (fun hcq74 => ?_)
        · refine e_iincN (t + 1) dX4_shutByRule_83 rfl (by decide) (nI_add _ _) ?_
          refine e_goto 2 dX4_shutByRule_86 (by decide) ?_
          refine Ev.drop 2 (Ev.drop 3 ?_)
          exact ih (t + 1) h N (by omega) hL hI hF hJ (by rw [shW, ← hN, if_neg (fun zz : shC N (nvN N0) (txN N0 0) t => by first | exact hcq15 zz.1 | exact hcq28 zz.2.1 | (have z8 := zz.2.2; rw [← hJ.nv, ← hJ.tx] at z8; exact z8 hcq74))])
        · refine e_aload_n dX4_shutByRule_77 rfl ?_
          refine e_iload_n dX4_shutByRule_78 rfl ?_
          refine e_iconst (nI (0)) dX4_shutByRule_79 (by decide) ?_
          refine c_V2v (nc := 0) (ns := 0) (mc := 0) (ms := 0) (N := mX4_setOpen) dX4_shutByRule_80 lv_X4_88 mo_X4_setOpen hL.1.cn (Nat.le_of_ble_eq_true rfl) (Nat.le_of_ble_eq_true rfl) (by decide) (k_setOpen0 D hL.1 hI hL.2.2 t (by omega)) (fun h hP => ?_)
          obtain ⟨y9, hy9, hy8⟩ := hP
          refine e_iincN (t + 1) dX4_shutByRule_83 rfl (by decide) (nI_add _ _) ?_
          refine e_goto 2 dX4_shutByRule_86 (by decide) ?_
          refine Ev.drop 2 (Ev.drop 3 ?_)
          have hLn := hL.1.op hI hL.2.2 (t := t) (by omega) (nI 0) y9 hy8
          exact ih (t + 1) h _ (by omega) (by rw [hy9]; exact hL.set (by have := hL.2.2; omega) (fun fs e => by injection e with e; injection e with e; exact absurd e (by decide)) hLn) (IN_up hI (by unfold FI; omega) (by omega) (PW_op hI.2.2.2.1 (by omega) (rg_nI (by decide) (by decide)))) (by rw [hy9]; exact hF.set _ (by omega)) (hJ.up (by omega) (PW_op hI.2.2.2.1 (by omega) (rg_nI (by decide) (by decide)))) (by rw [shW, ← hN, if_pos (show shC N (nvN N0) (txN N0 0) t from ⟨hcq15, hcq28, by rw [← hJ.nv, ← hJ.tx]; exact hcq74⟩)])
      · refine e_goto 83 dX4_shutByRule_31 (by decide) ?_
        refine e_iincN (t + 1) dX4_shutByRule_83 rfl (by decide) (nI_add _ _) ?_
        refine e_goto 2 dX4_shutByRule_86 (by decide) ?_
        refine Ev.drop 2 (Ev.drop 3 ?_)
        exact ih (t + 1) h N (by omega) hL hI hF hJ (by rw [shW, ← hN, if_neg (fun zz : shC N (nvN N0) (txN N0 0) t => by first | exact hcq15 zz.1 | exact hcq28 zz.2.1 | (have z8 := zz.2.2; rw [← hJ.nv, ← hJ.tx] at z8; exact z8 hcq74))])
set_option maxRecDepth 20000 in
theorem k_shut (D : En) {h : AH} {a : Nat} {N : Nat → Int32} (hL : LB h a N) (hI : IN N) : Sp D 5 mX4_shutByRule [.ref a] h 0 0 none (fun h' => LB h' a (shW N (nvN N) (txN N 0) (tcN N)) ∧ IN (shW N (nvN N) (txN N 0) (tcN N)) ∧ FY a h h' ∧ JW (shW N (nvN N) (txN N 0) (tcN N)) N) := by
  intro post hp
  show Ev D 5 mX4_shutByRule 0 [some (.ref a), none, none, none] [] h 0 0 post
  refine e_iconst (nI (0)) dX4_shutByRule_0 (by decide) ?_
  refine e_istore_n dX4_shutByRule_1 (by decide) ?_
  exact kl_shut D (N0 := N) (h0 := h) (fun h' a1 a2 a3 a4 => hp h' ⟨a1, a2, a3, a4⟩) (tcN N) 0 h N (by omega) hL hI FY.rf (JW.rf hI.2.2.2.1) rfl
