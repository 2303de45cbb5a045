/-- rows that differ in places, people and the number of VILLAGES alone -/
def AK (N N' : Nat → Int32) : Prop := ∀ j, (j = 0 ∨ j = 2 ∨ (6 ≤ j ∧ j < 13) ∨ 48 ≤ j) → N' j = N j
theorem AK.tc {N N' : Nat → Int32} (h : AK N N') : tcN N' = tcN N := by unfold tcN; rw [h 2 (by omega)]
theorem AK.tx {N N' : Nat → Int32} (h : AK N N') : txN N' = txN N := txN_ag (fun j hj => h j (by omega))
theorem AK.op {N N' : Nat → Int32} (h : AK N N') : opB N' = opB N := by
  unfold opB
  rw [h.tc]
  have e : openR N' = openR N := by
    funext t
    unfold openR
    rw [h _ (by omega)]
  rw [e]
theorem AK.md {N N' : Nat → Int32} (h : AK N N') (v : Nat) : mdB N' v = mdB N v := by
  unfold mdB
  have e : (fun b => if N' (48 + 8 * v + b) = nI 1 then nI 1 <<< (nI b &&& 31) else nI 0) = fun b => if N (48 + 8 * v + b) = nI 1 then nI 1 <<< (nI b &&& 31) else nI 0 := by
    funext b
    rw [h _ (by omega)]
  rw [e]
theorem AK.th {N N' : Nat → Int32} (h : AK N N') {hh : AH} {b t : Nat} (hb : ThingAt hh b t N) : ThingAt hh b t N' := by
  unfold ThingAt at hb ⊢
  have e1 : kdN N' t = kdN N t := by unfold kdN; rw [h _ (by omega)]
  have e2 : tgF N' t = tgF N t := by unfold tgF; rw [h _ (by omega), h _ (by omega), h _ (by omega), h _ (by omega)]
  rw [e1, e2]
  exact hb
theorem LandAt.vi {h h' : AH} {a : Nat} {N N' : Nat → Int32} (hL : LandAt h a N) (hK : AK N N') (ha : a + 11 < 101) (k0 : h'[a]? = some (.inr (4, lnF a N'))) (k1 : ∃ f, Row0 h' (a + 1) 8 f ∧ ∀ v, v < 8 → f v = N' (16 + 4 * v)) (k2 : ∃ f, Row0 h' (a + 2) 24 f ∧ ∀ v, v < 8 → ∀ w, w < 3 → f (3 * v + w) = N' (16 + 4 * v + 1 + w)) (hU : ∀ x, x ≠ a → x ≠ a + 1 → x ≠ a + 2 → h'[x]? = h[x]?) : LandU h' a N' := by
  obtain ⟨hLo, -, -, ⟨f3, hr3, he3⟩, ⟨T4, hr4, he4⟩, ⟨f5, hr5, he5⟩, ⟨f6, hr6, -⟩, ⟨f7, hr7, he7⟩, ⟨R8, hr8, he8⟩, ⟨f9, hr9⟩, ⟨f10, hr10⟩, ⟨fG, hrG, heG⟩⟩ := hL
  have hH : ∀ x, 101 ≤ x → h'[x]? = h[x]? := fun x hx => hU x (by omega) (by omega) (by omega)
  have hR : ∀ k, 3 ≤ k → h'[a + k]? = h[a + k]? := fun k hk => hU _ (by omega) (by omega) (by omega)
  refine ⟨k0, k1, k2, ⟨f3, (hR 3 (by omega)).trans hr3, fun v hv => (he3 v hv).trans (hK.md v).symm⟩, ⟨T4, (hR 4 (by omega)).trans hr4, fun t ht => ?_⟩, ⟨f5, (hR 5 (by omega)).trans hr5, fun t ht => ?_⟩, ⟨f6, (hR 6 (by omega)).trans hr6⟩, ⟨f7, (hR 8 (by omega)).trans hr7, fun k hk => (he7 k hk).trans (hK _ (by omega)).symm⟩, ⟨R8, (hR 9 (by omega)).trans hr8, fun u hu => ?_⟩, ⟨f9, (hR 10 (by omega)).trans hr9⟩, ⟨f10, (hR 11 (by omega)).trans hr10⟩, ⟨fG, (hR 7 (by omega)).trans hrG, fun t ht => ?_⟩⟩
  · rw [hK.tc] at ht
    obtain ⟨y, hy, hb⟩ := he4 t ht
    exact ⟨y, hy, hK.th (hb.hi hH)⟩
  · rw [hK.tc] at ht
    exact (he5 t ht).trans (hK _ (by omega)).symm
  · rw [hK.tx]
    rcases he8 u hu with z | ⟨z, r, w, hr⟩
    · exact Or.inl z
    · exact Or.inr ⟨z, r, w, hr.hi hH⟩
  · rw [hK.tc] at ht
    rw [show kdN N' t = kdN N t by unfold kdN; rw [hK _ (by omega)]]
    exact heG t ht
theorem AK_set {N : Nat → Int32} {v : Nat} {p y g o : Int32} (hv : v < 8) : AK N (setR N v p y g o) := by
  intro j hj
  unfold setR
  rw [pk_un (by omega), pk_un (by omega), pk_un (by omega), pk_un (by omega), pk_un (by omega)]
theorem set_pl {N f : Nat → Int32} {n : Nat} {p y g o : Int32} (he : ∀ v, v < 8 → f v = N (16 + 4 * v)) (hn : n < 8) : ∀ v, v < 8 → upd f n p v = setR N n p y g o (16 + 4 * v) := by
  intro v hv
  unfold setR
  rw [pk_un (k := 1) (by omega), pk_un (k := 16 + 4 * n + 3) (by omega), pk_un (k := 16 + 4 * n + 2) (by omega), pk_un (k := 16 + 4 * n + 1) (by omega)]
  by_cases e : v = n
  · rw [e, pk_us, pk_us]
  · rw [pk_un e, pk_un (by omega)]; exact he v hv
theorem set_pe {N f : Nat → Int32} {n : Nat} {p y g o : Int32} (he : ∀ v, v < 8 → ∀ w, w < 3 → f (3 * v + w) = N (16 + 4 * v + 1 + w)) (hn : n < 8) : ∀ v, v < 8 → ∀ w, w < 3 → upd (upd (upd f (3 * n + 0) y) (3 * n + 1) g) (3 * n + 2) o (3 * v + w) = setR N n p y g o (16 + 4 * v + 1 + w) := by
  intro v hv w hw
  unfold setR
  rw [pk_un (k := 1) (by omega)]
  by_cases e : v = n
  · subst e
    rcases (show w = 0 ∨ w = 1 ∨ w = 2 by omega) with z | z | z
    · subst z
      rw [pk_un (by omega), pk_un (by omega), pk_us, pk_un (by omega), pk_un (by omega), pk_us]
    · subst z
      rw [pk_un (by omega), pk_us, pk_un (by omega), pk_us]
    · subst z
      rw [pk_us, pk_us]
  · rw [pk_un (by omega), pk_un (by omega), pk_un (by omega), pk_un (by omega), pk_un (by omega), pk_un (by omega), pk_un (by omega)]
    exact he v hv w hw
set_option maxRecDepth 20000 in
theorem k_addV (D : En) {h : AH} {a : Nat} {N : Nat → Int32} (hL : LB h a N) (hI : IN N) (p y g o : Int32) (hv : nvN N < 8) (hI2 : IN (setR N (nvN N) p y g o)) : Sp D 5 mX4_addVillage [.ref a, .int p, .int y, .int g, .int o] h 0 0 (some (.int (nI (nvN N)))) (fun h' => LB h' a (setR N (nvN N) p y g o) ∧ FA a h h' ∧ h'[a + 4]? = h[a + 4]?) := by
  have ha := hL.2.2
  obtain ⟨hLo, ⟨f1, hr1, he1⟩, ⟨f2, hr2, he2⟩, -⟩ := id hL.1
  intro post hp
  show Ev D 5 mX4_addVillage 0 [some (.ref a), some (.int p), some (.int y), some (.int g), some (.int o), none] [] h 0 0 post
  refine e_aload_n dX4_addVillage_0 rfl ?_
  refine e_get dX4_addVillage_1 fl_X4_18_4 hLo rfl ?_
  refine e_top (nI (nvN N)) hI.1.1 ?_
  refine e_istore dX4_addVillage_4 (by decide) ?_
  refine e_iload dX4_addVillage_6 rfl ?_
  refine e_bipush (nI 8) dX4_addVillage_8 (by decide) ?_
  refine e_icmp_ltN 15 dX4_addVillage_10 (by decide) (by omega) (by omega) (fun hc => ?_) (fun hc => absurd hc (by omega))
  refine e_aload_n dX4_addVillage_15 rfl ?_
  refine e_get dX4_addVillage_16 fl_X4_27_4 hLo rfl ?_
  refine e_iload dX4_addVillage_19 rfl ?_
  refine e_iload_n dX4_addVillage_21 rfl ?_
  refine e_ist (nvN N) dX4_addVillage_22 hr1 rfl (by omega) (by decide) ?_
  refine e_aload_n dX4_addVillage_23 rfl ?_
  refine e_get dX4_addVillage_24 fl_X4_31_4 (by first | exact getset hLo (by omega) | exact getset (getset hLo (by omega)) (by omega) | exact getset (getset (getset hLo (by omega)) (by omega)) (by omega)) rfl ?_
  refine e_iconst (nI 3) dX4_addVillage_27 (by decide) ?_
  refine e_iload dX4_addVillage_28 rfl ?_
  refine e_imulN dX4_addVillage_30 ?_
  refine e_iconst (nI 0) dX4_addVillage_31 (by decide) ?_
  refine e_iaddN dX4_addVillage_32 ?_
  refine e_iload_n dX4_addVillage_33 rfl ?_
  have q2 := getset (b := a + 1) (c := .inl (0, 8, .inl (upd f1 (nvN N) p))) hr2 (by omega)
  refine e_ist (3 * nvN N + 0) dX4_addVillage_34 q2 rfl (by omega) (by decide) ?_
  refine e_aload_n dX4_addVillage_35 rfl ?_
  refine e_get dX4_addVillage_36 fl_X4_31_4 (by first | exact getset hLo (by omega) | exact getset (getset hLo (by omega)) (by omega) | exact getset (getset (getset hLo (by omega)) (by omega)) (by omega)) rfl ?_
  refine e_iconst (nI 3) dX4_addVillage_39 (by decide) ?_
  refine e_iload dX4_addVillage_40 rfl ?_
  refine e_imulN dX4_addVillage_42 ?_
  refine e_iconst (nI 1) dX4_addVillage_43 (by decide) ?_
  refine e_iaddN dX4_addVillage_44 ?_
  refine e_iload_n dX4_addVillage_45 rfl ?_
  have q3 := getself (c := .inl (0, 24, .inl (upd f2 (3 * nvN N + 0) y))) q2
  refine e_ist (3 * nvN N + 1) dX4_addVillage_46 q3 rfl (by omega) (by decide) ?_
  have q4 := getself (c := .inl (0, 24, .inl (upd (upd f2 (3 * nvN N + 0) y) (3 * nvN N + 1) g))) q3
  refine e_aload_n dX4_addVillage_47 rfl ?_
  refine e_get dX4_addVillage_48 fl_X4_31_4 (by first | exact getset hLo (by omega) | exact getset (getset hLo (by omega)) (by omega) | exact getset (getset (getset hLo (by omega)) (by omega)) (by omega)) rfl ?_
  refine e_iconst (nI 3) dX4_addVillage_51 (by decide) ?_
  refine e_iload dX4_addVillage_52 rfl ?_
  refine e_imulN dX4_addVillage_54 ?_
  refine e_iconst (nI 2) dX4_addVillage_55 (by decide) ?_
  refine e_iaddN dX4_addVillage_56 ?_
  refine e_iload dX4_addVillage_57 rfl ?_
  refine e_ist (3 * nvN N + 2) dX4_addVillage_59 q4 rfl (by omega) (by decide) ?_
  have q5 := getself (c := .inl (0, 24, .inl (upd (upd (upd f2 (3 * nvN N + 0) y) (3 * nvN N + 1) g) (3 * nvN N + 2) o))) q4
  have q1 := getself (c := .inl (0, 8, .inl (upd f1 (nvN N) p))) hr1
  have qo := getset (b := a + 2) (c := .inl (0, 24, .inl (upd (upd (upd f2 (3 * nvN N + 0) y) (3 * nvN N + 1) g) (3 * nvN N + 2) o))) (getset (b := a + 2) (c := .inl (0, 24, .inl (upd (upd f2 (3 * nvN N + 0) y) (3 * nvN N + 1) g))) (getset (b := a + 2) (c := .inl (0, 24, .inl (upd f2 (3 * nvN N + 0) y))) (getset (b := a + 1) (c := .inl (0, 8, .inl (upd f1 (nvN N) p))) hLo (by omega)) (by omega)) (by omega)) (by omega)
  have q9 := getset (b := a + 2) (c := .inl (0, 24, .inl (upd (upd (upd f2 (3 * nvN N + 0) y) (3 * nvN N + 1) g) (3 * nvN N + 2) o))) (getset (b := a + 2) (c := .inl (0, 24, .inl (upd (upd f2 (3 * nvN N + 0) y) (3 * nvN N + 1) g))) (getset (b := a + 2) (c := .inl (0, 24, .inl (upd f2 (3 * nvN N + 0) y))) q1 (by omega)) (by omega)) (by omega)
  refine e_aload_n dX4_addVillage_60 rfl ?_
  refine e_dup dX4_addVillage_61 rfl ?_
  refine e_get dX4_addVillage_62 fl_X4_18_4 qo rfl ?_
  refine e_top (nI (nvN N)) hI.1.1 ?_
  refine e_iconst (nI 1) dX4_addVillage_65 (by decide) ?_
  refine e_iaddN dX4_addVillage_66 ?_
  refine e_put dX4_addVillage_67 fl_X4_18_4 ft_4 (fun q hq => Or.inl (by cases hq; rfl)) qo (by show _ < 16; decide) rfl rfl ?_
  have hK : AK N (setR N (nvN N) p y g o) := AK_set hv
  have eo : (lnF a N).set 2 (.int (nI (nvN N + 1))) = lnF a (setR N (nvN N) p y g o) := by
    unfold lnF
    rw [hK 0 (by omega), hK 6 (by omega), hK 2 (by omega), hK.op, show setR N (nvN N) p y g o 1 = nI (nvN N + 1) from pk_us]
    rfl
  rw [eo]
  have w0 := getself (c := .inr (4, lnF a (setR N (nvN N) p y g o))) qo
  have w1 := getset (b := a) (c := .inr (4, lnF a (setR N (nvN N) p y g o))) q9 (by omega)
  have w2 := getset (b := a) (c := .inr (4, lnF a (setR N (nvN N) p y g o))) q5 (by omega)
  have hB5 : RB (((((h.set (a + 1) (.inl (0, 8, .inl (upd f1 (nvN N) p)))).set (a + 2) (.inl (0, 24, .inl (upd f2 (3 * nvN N + 0) y)))).set (a + 2) (.inl (0, 24, .inl (upd (upd f2 (3 * nvN N + 0) y) (3 * nvN N + 1) g)))).set (a + 2) (.inl (0, 24, .inl (upd (upd (upd f2 (3 * nvN N + 0) y) (3 * nvN N + 1) g) (3 * nvN N + 2) o)))).set a (.inr (4, lnF a (setR N (nvN N) p y g o)))) := ((((hL.2.1.set (by omega) (fun fs e => by cases e)).set (by omega) (fun fs e => by cases e)).set (by omega) (fun fs e => by cases e)).set (by omega) (fun fs e => by cases e)).set (by omega) (fun fs e => by cases e)
  have hU5 : ∀ x, x ≠ a → x ≠ a + 1 → x ≠ a + 2 → (((((h.set (a + 1) (.inl (0, 8, .inl (upd f1 (nvN N) p)))).set (a + 2) (.inl (0, 24, .inl (upd f2 (3 * nvN N + 0) y)))).set (a + 2) (.inl (0, 24, .inl (upd (upd f2 (3 * nvN N + 0) y) (3 * nvN N + 1) g)))).set (a + 2) (.inl (0, 24, .inl (upd (upd (upd f2 (3 * nvN N + 0) y) (3 * nvN N + 1) g) (3 * nvN N + 2) o)))).set a (.inr (4, lnF a (setR N (nvN N) p y g o))))[x]? = h[x]? := fun x x1 x2 x3 => getset (getset (getset (getset (getset rfl (Ne.symm x2)) (Ne.symm x3)) (Ne.symm x3)) (Ne.symm x3)) (Ne.symm x1)
  have hl5 : (((((h.set (a + 1) (.inl (0, 8, .inl (upd f1 (nvN N) p)))).set (a + 2) (.inl (0, 24, .inl (upd f2 (3 * nvN N + 0) y)))).set (a + 2) (.inl (0, 24, .inl (upd (upd f2 (3 * nvN N + 0) y) (3 * nvN N + 1) g)))).set (a + 2) (.inl (0, 24, .inl (upd (upd (upd f2 (3 * nvN N + 0) y) (3 * nvN N + 1) g) (3 * nvN N + 2) o)))).set a (.inr (4, lnF a (setR N (nvN N) p y g o)))).length = h.length := by rw [List.length_set, List.length_set, List.length_set, List.length_set, List.length_set]
  obtain ⟨h5, hh5⟩ : ∃ z, z = ((((h.set (a + 1) (.inl (0, 8, .inl (upd f1 (nvN N) p)))).set (a + 2) (.inl (0, 24, .inl (upd f2 (3 * nvN N + 0) y)))).set (a + 2) (.inl (0, 24, .inl (upd (upd f2 (3 * nvN N + 0) y) (3 * nvN N + 1) g)))).set (a + 2) (.inl (0, 24, .inl (upd (upd (upd f2 (3 * nvN N + 0) y) (3 * nvN N + 1) g) (3 * nvN N + 2) o)))).set a (.inr (4, lnF a (setR N (nvN N) p y g o))) := ⟨_, rfl⟩
  change Ev D 5 mX4_addVillage 70 [some (.ref a), some (.int p), some (.int y), some (.int g), some (.int o), some (.int (nI (nvN N)))] [] (((((h.set (a + 1) (.inl (0, 8, .inl (upd f1 (nvN N) p)))).set (a + 2) (.inl (0, 24, .inl (upd f2 (3 * nvN N + 0) y)))).set (a + 2) (.inl (0, 24, .inl (upd (upd f2 (3 * nvN N + 0) y) (3 * nvN N + 1) g)))).set (a + 2) (.inl (0, 24, .inl (upd (upd (upd f2 (3 * nvN N + 0) y) (3 * nvN N + 1) g) (3 * nvN N + 2) o)))).set a (.inr (4, lnF a (setR N (nvN N) p y g o)))) 0 0 post
  rw [← hh5] at w0
  rw [← hh5] at w1
  rw [← hh5] at w2
  rw [← hh5] at hB5
  rw [← hh5] at hU5
  rw [← hh5] at hl5
  rw [← hh5]
  clear hh5
  have hLU : LandU h5 a (setR N (nvN N) p y g o) := hL.1.vi hK hL.2.2 w0 ⟨_, w1, fun v hv2 => set_pl he1 hv v hv2⟩ ⟨_, w2, fun v hv2 w hw => set_pe he2 hv v hv2 w hw⟩ hU5
  refine e_aload_n dX4_addVillage_70 rfl ?_
  refine c_V0v (nc := 0) (ns := 0) (mc := 0) (ms := 0) (N := mX4_survey) dX4_addVillage_71 lv_X4_81 mo_X4_survey hLU.cn (Nat.le_of_ble_eq_true rfl) (Nat.le_of_ble_eq_true rfl) (by decide) (k_survey D hLU hB5 hI2 hL.2.2) (fun h6 hP => ?_)
  obtain ⟨p1, p2, p3⟩ := hP
  refine e_iload dX4_addVillage_74 rfl ?_
  exact e_iret dX4_addVillage_76 rfl (hp _ ⟨p1, ⟨p2.1.trans hl5, fun x hx => (p2.2 x hx).trans (hU5 x (by omega) (by omega) (by omega))⟩, p3.trans (hU5 _ (by omega) (by omega) (by omega))⟩)
