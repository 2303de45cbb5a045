/-! numbers that no WAY, no THING and no TEXT depends on -/
def ST (j : Nat) : Prop := j = 1 ∨ j = 2 ∨ j = 6 ∨ (16 ≤ j ∧ j < 48 ∧ j % 4 = 0) ∨ (48 ≤ j ∧ j < 112) ∨ (112 ≤ j ∧ j < 182 ∧ (j - 112) % 7 < 5) ∨ 252 ≤ j
def AG (N N' : Nat → Int32) : Prop := ∀ j, ST j → N' j = N j
theorem AG.upd {N : Nat → Int32} {k : Nat} (x : Int32) (hk : ¬ ST k) : AG N (upd N k x) := fun j hj => pk_un (fun e => hk (e ▸ hj))
theorem AG.trans {N N1 N2 : Nat → Int32} (h1 : AG N N1) (h2 : AG N1 N2) : AG N N2 := fun j hj => (h2 j hj).trans (h1 j hj)
theorem AG.nv {N N' : Nat → Int32} (h : AG N N') : nvN N' = nvN N := by unfold nvN; rw [h 1 (by unfold ST; omega)]
theorem AG.tc {N N' : Nat → Int32} (h : AG N N') : tcN N' = tcN N := by unfold tcN; rw [h 2 (by unfold ST; omega)]
theorem AG.tx {N N' : Nat → Int32} (h : AG N N') : txN N' = txN N := txN_ag (fun j hj => h j (by unfold ST; omega))
theorem AG.kd {N N' : Nat → Int32} (h : AG N N') {t : Nat} (ht : t < 10) : kdN N' t = kdN N t := by unfold kdN; rw [h _ (by unfold ST; omega)]
theorem AG.at_ {N N' : Nat → Int32} (h : AG N N') {t : Nat} (ht : t < 10) : atN N' t = atN N t := by unfold atN; rw [h _ (by unfold ST; omega)]
theorem AG.tg {N N' : Nat → Int32} (h : AG N N') {t : Nat} (ht : t < 10) : tgF N' t = tgF N t := by
  unfold tgF
  rw [h (112 + 7 * t + 1) (by unfold ST; omega), h (112 + 7 * t + 2) (by unfold ST; omega), h (112 + 7 * t + 3) (by unfold ST; omega), h (112 + 7 * t + 4) (by unfold ST; omega)]
theorem AG.way {N N' : Nat → Int32} (h : AG N N') {v w : Nat} (hv : v < 8) (hw : w < 8) : wayR N' v w = wayR N v w := by
  unfold wayR
  rw [h (48 + 8 * v + w) (by unfold ST; omega), h (16 + 4 * v) (by unfold ST; omega), h (16 + 4 * w) (by unfold ST; omega), h 6 (by unfold ST; omega)]
theorem AG.sv {N N' : Nat → Int32} (h : AG N N') {nv t : Nat} (hnv : nv ≤ 8) (ht : t < 10) (ha : atN N t < 8) : servedR N' nv t = servedR N nv t := by
  unfold servedR
  apply orF_congr
  intro v hv
  unfold servR
  rw [h.kd ht, h.at_ ht, h (112 + 7 * t + 4) (by unfold ST; omega), h.way ha (by omega)]
theorem AG.md {N N' : Nat → Int32} (h : AG N N') {v : Nat} (hv : v < 8) : mdB N' v = mdB N v := by
  unfold mdB
  apply orF_congr
  intro w hw
  rw [h (48 + 8 * v + w) (by unfold ST; omega)]
theorem AG.thing {N N' : Nat → Int32} (h : AG N N') {hh : AH} {b t : Nat} (ht : t < 10) (hb : ThingAt hh b t N) : ThingAt hh b t N' := by
  unfold ThingAt at *
  rw [h.kd ht, h.tg ht]
  exact hb
theorem ThingAt.set {h : AH} {b t : Nat} {N : Nat → Int32} (hb : ThingAt h b t N) {j : Nat} (c : AC) (hj : j < 101) : ThingAt (h.set j c) b t N := ⟨hb.1, getset hb.2 (by have := hb.1; omega)⟩
theorem RuleAt.set {h : AH} {r u : Nat} {tx : List Nat} (hr : RuleAt h r u tx) {j : Nat} (c : AC) (hj : j < 101) : RuleAt (h.set j c) r u tx := by
  obtain ⟨h0, ⟨p, f, h1⟩, ⟨b, h2⟩, ⟨e, h3, h3'⟩, ⟨k, h4⟩⟩ := hr
  exact ⟨h0, ⟨p, f, getset h1 (by omega)⟩, ⟨b, getset h2 (by omega)⟩, ⟨e, getset h3 (by omega), h3'⟩, ⟨k, getset h4 (by omega)⟩⟩
theorem RB.set {h : AH} (hB : RB h) {j : Nat} {c : AC} (hj : j < 101) (hc : ∀ fs, c ≠ .inr (6, fs)) : RB (h.set j c) := by
  intro r fs hr
  by_cases e : j = r
  · subst e
    rcases Nat.lt_or_ge j h.length with z | z
    · rw [List.getElem?_set_self z] at hr
      exact absurd (Option.some.inj hr) (hc fs)
    · rw [List.getElem?_eq_none (by rw [List.length_set]; exact z)] at hr
      cases hr
  · rw [List.getElem?_set_ne e] at hr
    obtain ⟨h0, ⟨gs, h1⟩, ⟨c1, h2⟩, ⟨c2, h3⟩⟩ := hB r fs hr
    exact ⟨h0, ⟨gs, getset h1 (by omega)⟩, ⟨c1, getset h2 (by omega)⟩, ⟨c2, getset h3 (by omega)⟩⟩
theorem row_inj {h : AH} {a n : Nat} {f g : Nat → Int32} (h1 : Row0 h a n f) (h2 : Row0 h a n g) : f = g := by
  have e := h1.symm.trans h2
  cases e
  rfl
/-- the land after a cell below it, or of its own scratch, was written; numbers that agree where it matters -/
theorem LandAt.go {h : AH} {a : Nat} {N N' : Nat → Int32} (hL : LandAt h a N) (hI : IN N) (hA : AG N N') {j : Nat} {c : AC} (hj : j < 101) (ha : a + 11 < 101)
    (k0 : (h.set j c)[a]? = some (.inr (4, lnF a N'))) (k1 : j ≠ a + 1) (k3 : j ≠ a + 3) (k4 : j ≠ a + 4) (k6 : j ≠ a + 6) (k8 : j ≠ a + 9) (kg : j ≠ a + 7)
    (k2 : ∃ f, Row0 (h.set j c) (a + 2) 24 f ∧ ∀ v, v < 8 → ∀ w, w < 3 → f (3 * v + w) = N' (16 + 4 * v + 1 + w))
    (k5 : ∃ f, Row0 (h.set j c) (a + 5) 10 f ∧ ∀ t, t < tcN N → f t = N' (112 + 7 * t + 6))
    (k7 : ∃ f, Row0 (h.set j c) (a + 8) 6 f ∧ ∀ k, k < 6 → f k = N' (7 + k))
    (k9 : ∃ f, Row0 (h.set j c) (a + 10) 8 f) (k10 : ∃ f, Row0 (h.set j c) (a + 11) 3 f) : LandAt (h.set j c) a N' := by
  obtain ⟨-, ⟨f1, hr1, he1⟩, -, ⟨f3, hr3, he3⟩, ⟨T4, hr4, he4⟩, -, ⟨f6, hr6, he6⟩, -, ⟨R8, hr8, he8⟩, -, -, ⟨fG, hrG, heG⟩⟩ := hL
  have hnv := hI.1.2.1
  have htc := hI.1.2.2.2.1
  refine ⟨k0, ⟨f1, getset hr1 k1, fun v hv => (he1 v hv).trans (hA _ (by unfold ST; omega)).symm⟩, k2, ⟨f3, getset hr3 k3, fun v hv => (he3 v hv).trans (hA.md hv).symm⟩, ⟨T4, getset hr4 k4, fun t ht => ?_⟩, by rw [hA.tc]; exact k5, ⟨f6, getset hr6 k6, fun t ht => ?_⟩, k7, ⟨R8, getset hr8 k8, fun u hu => ?_⟩, k9, k10, ⟨fG, getset hrG kg, fun t ht => ?_⟩⟩
  · rw [hA.tc] at ht
    obtain ⟨b, e1, e2⟩ := he4 t ht
    exact ⟨b, e1, (hA.thing (by omega) e2).set c hj⟩
  · rw [hA.tc] at ht
    rw [hA.nv, hA.sv hnv (by omega) (hI.1.2.2.2.2.1 t ht).2.2.2]
    exact he6 t ht
  · rw [hA.tx]
    rcases he8 u hu with z | ⟨z, r, e1, e2⟩
    · exact Or.inl z
    · exact Or.inr ⟨z, r, e1, e2.set c hj⟩
  · rw [hA.tc] at ht
    rw [hA.kd (by omega)]
    exact heG t ht
theorem AG.rf {N : Nat → Int32} : AG N N := fun _ _ => rfl
theorem opB_ag {N N' : Nat → Int32} (hA : AG N N') (h : ∀ t, t < 10 → N' (112 + 7 * t + 5) = N (112 + 7 * t + 5)) (htc : tcN N ≤ 10) : opB N' = opB N := by
  unfold opB
  rw [hA.tc]
  apply orF_congr
  intro t ht
  unfold openR
  rw [h t (by omega)]
theorem lnF_ag {a : Nat} {N N' : Nat → Int32} (hA : AG N N') (h0 : N' 0 = N 0) (ho : opB N' = opB N) : lnF a N' = lnF a N := by
  unfold lnF
  rw [h0, hA 6 (by unfold ST; omega), hA 1 (by unfold ST; omega), hA 2 (by unfold ST; omega), ho]
/-- a foreign cell -/
theorem LandAt.out {h : AH} {a : Nat} {N : Nat → Int32} (hL : LandAt h a N) (hI : IN N) {j : Nat} (c : AC) (hj : j < 101) (ha : a + 11 < 101) (hja : j < a ∨ a + 11 < j) : LandAt (h.set j c) a N := by
  obtain ⟨h0, -, ⟨f2, hr2, he2⟩, -, -, ⟨f5, hr5, he5⟩, -, ⟨f7, hr7, he7⟩, -, ⟨f9, hr9⟩, ⟨f10, hr10⟩, ⟨fG, hrG, heG⟩⟩ := id hL
  exact hL.go hI AG.rf hj ha (getset h0 (by omega)) (by omega) (by omega) (by omega) (by omega) (by omega) (by omega) ⟨f2, getset hr2 (by omega), he2⟩ ⟨f5, getset hr5 (by omega), he5⟩ ⟨f7, getset hr7 (by omega), he7⟩ ⟨f9, getset hr9 (by omega)⟩ ⟨f10, getset hr10 (by omega)⟩
/-- its scratch rows -/
theorem LandAt.w9 {h : AH} {a : Nat} {N : Nat → Int32} (hL : LandAt h a N) (hI : IN N) (ha : a + 11 < 101) (f : Nat → Int32) : LandAt (h.set (a + 10) (.inl (0, 8, .inl f))) a N := by
  obtain ⟨h0, -, ⟨f2, hr2, he2⟩, -, -, ⟨f5, hr5, he5⟩, -, ⟨f7, hr7, he7⟩, -, ⟨f9, hr9⟩, ⟨f10, hr10⟩, ⟨fG, hrG, heG⟩⟩ := id hL
  exact hL.go hI AG.rf (by omega) ha (getset h0 (by omega)) (by omega) (by omega) (by omega) (by omega) (by omega) (by omega) ⟨f2, getset hr2 (by omega), he2⟩ ⟨f5, getset hr5 (by omega), he5⟩ ⟨f7, getset hr7 (by omega), he7⟩ ⟨f, getself hr9⟩ ⟨f10, getset hr10 (by omega)⟩
theorem LandAt.w10 {h : AH} {a : Nat} {N : Nat → Int32} (hL : LandAt h a N) (hI : IN N) (ha : a + 11 < 101) (f : Nat → Int32) : LandAt (h.set (a + 11) (.inl (0, 3, .inl f))) a N := by
  obtain ⟨h0, -, ⟨f2, hr2, he2⟩, -, -, ⟨f5, hr5, he5⟩, -, ⟨f7, hr7, he7⟩, -, ⟨f9, hr9⟩, ⟨f10, hr10⟩, ⟨fG, hrG, heG⟩⟩ := id hL
  exact hL.go hI AG.rf (by omega) ha (getset h0 (by omega)) (by omega) (by omega) (by omega) (by omega) (by omega) (by omega) ⟨f2, getset hr2 (by omega), he2⟩ ⟨f5, getset hr5 (by omega), he5⟩ ⟨f7, getset hr7 (by omega), he7⟩ ⟨f9, getset hr9 (by omega)⟩ ⟨f, getself hr10⟩
/-- people -/
theorem nST_pe {v w : Nat} (hv : v < 8) (hw : w < 3) : ¬ ST (16 + 4 * v + 1 + w) := by unfold ST; omega
theorem LandAt.pe {h : AH} {a : Nat} {N : Nat → Int32} (hL : LandAt h a N) (hI : IN N) (ha : a + 11 < 101) {f : Nat → Int32} (hf : Row0 h (a + 2) 24 f) {v w : Nat} (hv : v < 8) (hw : w < 3) (x : Int32) : LandAt (h.set (a + 2) (.inl (0, 24, .inl (upd f (3 * v + w) x)))) a (upd N (16 + 4 * v + 1 + w) x) := by
  obtain ⟨h0, -, ⟨f2, hr2, he2⟩, -, -, ⟨f5, hr5, he5⟩, -, ⟨f7, hr7, he7⟩, -, ⟨f9, hr9⟩, ⟨f10, hr10⟩, ⟨fG, hrG, heG⟩⟩ := id hL
  obtain rfl := row_inj hr2 hf
  have hA : AG N (upd N (16 + 4 * v + 1 + w) x) := AG.upd x (nST_pe hv hw)
  have htc := hI.1.2.2.2.1
  refine hL.go hI hA (by omega) ha ?_ (by omega) (by omega) (by omega) (by omega) (by omega) (by omega) ⟨_, getself hr2, fun v' hv' w' hw' => ?_⟩ ⟨f5, getset hr5 (by omega), fun t ht => by rw [pk_un (by omega)]; exact he5 t ht⟩ ⟨f7, getset hr7 (by omega), fun k hk => by rw [pk_un (by omega)]; exact he7 k hk⟩ ⟨f9, getset hr9 (by omega)⟩ ⟨f10, getset hr10 (by omega)⟩
  · rw [lnF_ag hA (pk_un (by omega)) (opB_ag hA (fun t ht => pk_un (by omega)) htc)]
    exact getset h0 (by omega)
  · by_cases e : v' = v ∧ w' = w
    · rw [e.1, e.2, pk_us, pk_us]
    · rw [pk_un (by omega), pk_un (by omega)]; exact he2 v' hv' w' hw'
/-- promises -/
theorem LandAt.pr {h : AH} {a : Nat} {N : Nat → Int32} (hL : LandAt h a N) (hI : IN N) (ha : a + 11 < 101) {f : Nat → Int32} (hf : Row0 h (a + 5) 10 f) {t : Nat} (ht : t < 10) (x : Int32) : LandAt (h.set (a + 5) (.inl (0, 10, .inl (upd f t x)))) a (upd N (112 + 7 * t + 6) x) := by
  obtain ⟨h0, -, ⟨f2, hr2, he2⟩, -, -, ⟨f5, hr5, he5⟩, -, ⟨f7, hr7, he7⟩, -, ⟨f9, hr9⟩, ⟨f10, hr10⟩, ⟨fG, hrG, heG⟩⟩ := id hL
  obtain rfl := row_inj hr5 hf
  have hA : AG N (upd N (112 + 7 * t + 6) x) := AG.upd x (by unfold ST; omega)
  have htc := hI.1.2.2.2.1
  refine hL.go hI hA (by omega) ha ?_ (by omega) (by omega) (by omega) (by omega) (by omega) (by omega) ⟨f2, getset hr2 (by omega), fun v hv w hw => by rw [pk_un (by omega)]; exact he2 v hv w hw⟩ ⟨_, getself hr5, fun t' ht' => ?_⟩ ⟨f7, getset hr7 (by omega), fun k hk => by rw [pk_un (by omega)]; exact he7 k hk⟩ ⟨f9, getset hr9 (by omega)⟩ ⟨f10, getset hr10 (by omega)⟩
  · rw [lnF_ag hA (pk_un (by omega)) (opB_ag hA (fun t ht => pk_un (by omega)) htc)]
    exact getset h0 (by omega)
  · by_cases e : t' = t
    · rw [e, pk_us, pk_us]
    · rw [pk_un (by omega), pk_un (by omega)]; exact he5 t' ht'
/-- rates -/
theorem LandAt.rt {h : AH} {a : Nat} {N : Nat → Int32} (hL : LandAt h a N) (hI : IN N) (ha : a + 11 < 101) {f : Nat → Int32} (hf : Row0 h (a + 8) 6 f) {k : Nat} (hk : k < 6) (x : Int32) : LandAt (h.set (a + 8) (.inl (0, 6, .inl (upd f k x)))) a (upd N (7 + k) x) := by
  obtain ⟨h0, -, ⟨f2, hr2, he2⟩, -, -, ⟨f5, hr5, he5⟩, -, ⟨f7, hr7, he7⟩, -, ⟨f9, hr9⟩, ⟨f10, hr10⟩, ⟨fG, hrG, heG⟩⟩ := id hL
  obtain rfl := row_inj hr7 hf
  have hA : AG N (upd N (7 + k) x) := AG.upd x (by unfold ST; omega)
  have htc := hI.1.2.2.2.1
  refine hL.go hI hA (by omega) ha ?_ (by omega) (by omega) (by omega) (by omega) (by omega) (by omega) ⟨f2, getset hr2 (by omega), fun v hv w hw => by rw [pk_un (by omega)]; exact he2 v hv w hw⟩ ⟨f5, getset hr5 (by omega), fun t ht => by rw [pk_un (by omega)]; exact he5 t ht⟩ ⟨_, getself hr7, fun k' hk' => ?_⟩ ⟨f9, getset hr9 (by omega)⟩ ⟨f10, getset hr10 (by omega)⟩
  · rw [lnF_ag hA (pk_un (by omega)) (opB_ag hA (fun t ht => pk_un (by omega)) htc)]
    exact getset h0 (by omega)
  · by_cases e : k' = k
    · rw [e, pk_us, pk_us]
    · rw [pk_un (by omega), pk_un (by omega)]; exact he7 k' hk'
/-- the land's own numbers: now, open bits -/
theorem LandAt.f0 {h : AH} {a : Nat} {N N' : Nat → Int32} (hL : LandAt h a N) (hI : IN N) (ha : a + 11 < 101) (hA : AG N N') (h2 : ∀ v, v < 8 → ∀ w, w < 3 → N' (16 + 4 * v + 1 + w) = N (16 + 4 * v + 1 + w)) (h5 : ∀ t, t < 10 → N' (112 + 7 * t + 6) = N (112 + 7 * t + 6)) (h7 : ∀ k, k < 6 → N' (7 + k) = N (7 + k)) {fs : List Value} (hfs : fs = lnF a N') : LandAt (h.set a (.inr (4, fs))) a N' := by
  obtain ⟨g0, -, ⟨f2, hr2, he2⟩, -, -, ⟨f5, hr5, he5⟩, -, ⟨f7, hr7, he7⟩, -, ⟨f9, hr9⟩, ⟨f10, hr10⟩, ⟨fG, hrG, heG⟩⟩ := id hL
  have htc := hI.1.2.2.2.1
  exact hL.go hI hA (by omega) ha (by rw [getself g0, hfs]) (by omega) (by omega) (by omega) (by omega) (by omega) (by omega) ⟨f2, getset hr2 (by omega), fun v hv w hw => by rw [h2 v hv w hw]; exact he2 v hv w hw⟩ ⟨f5, getset hr5 (by omega), fun t ht => by rw [h5 t (by omega)]; exact he5 t ht⟩ ⟨f7, getset hr7 (by omega), fun k hk => by rw [h7 k hk]; exact he7 k hk⟩ ⟨f9, getset hr9 (by omega)⟩ ⟨f10, getset hr10 (by omega)⟩
theorem opB_set {N : Nat → Int32} {t : Nat} (htc : tcN N ≤ 10) (ht : t < tcN N) : opB (upd N (112 + 7 * t + 5) (nI 1)) = opB N ||| nI 1 <<< (nI t &&& 31) ∧ opB (upd N (112 + 7 * t + 5) (nI 0)) = opB N &&& (nI 1 <<< (nI t &&& 31) ^^^ (-1)) := by
  have hA : ∀ x, AG N (upd N (112 + 7 * t + 5) x) := fun x => AG.upd x (by unfold ST; omega)
  constructor
  · apply bt_ext
    intro i hi
    rw [bt_or, bt_op (by rw [(hA _).tc]; exact htc) i hi, bt_op htc i hi, bt_sh1 t (by omega) i hi, (hA _).tc]
    by_cases e : i = t
    · subst e
      rw [pk_us, decide_eq_true ⟨ht, rfl⟩, decide_eq_true rfl, Bool.or_true]
    · rw [decide_eq_false e, Bool.or_false, pk_un (by omega)]
  · apply bt_ext
    intro i hi
    rw [bt_and, bt_xor, bt_m1 i hi, bt_op (by rw [(hA _).tc]; exact htc) i hi, bt_op htc i hi, bt_sh1 t (by omega) i hi, (hA _).tc]
    by_cases e : i = t
    · subst e
      rw [pk_us, decide_eq_false (fun z => absurd z.2 (by decide)), decide_eq_true rfl]
      simp
    · rw [decide_eq_false e, pk_un (by omega)]
      simp
theorem LandAt.op {h : AH} {a : Nat} {N : Nat → Int32} (hL : LandAt h a N) (hI : IN N) (ha : a + 11 < 101) {t : Nat} (ht : t < 10) (x y : Int32) (hy : y = opB (upd N (112 + 7 * t + 5) x)) : LandAt (h.set a (.inr (4, (lnF a N).set 4 (.int y)))) a (upd N (112 + 7 * t + 5) x) := by
  have hA : AG N (upd N (112 + 7 * t + 5) x) := AG.upd x (by unfold ST; omega)
  refine hL.f0 hI ha hA (fun v hv w hw => pk_un (by omega)) (fun t ht => pk_un (by omega)) (fun k hk => pk_un (by omega)) ?_
  rw [hy]
  unfold lnF
  rw [pk_un (by omega), pk_un (by omega), pk_un (by omega), pk_un (by omega)]
  rfl
theorem LandAt.now {h : AH} {a : Nat} {N : Nat → Int32} (hL : LandAt h a N) (hI : IN N) (ha : a + 11 < 101) (x : Int32) : LandAt (h.set a (.inr (4, (lnF a N).set 0 (.int x)))) a (upd N 0 x) := by
  have hA : AG N (upd N 0 x) := AG.upd x (by unfold ST; omega)
  refine hL.f0 hI ha hA (fun v hv w hw => pk_un (by omega)) (fun t ht => pk_un (by omega)) (fun k hk => pk_un (by omega)) ?_
  unfold lnF
  rw [pk_us, pk_un (by decide), pk_un (by decide), pk_un (by decide), show opB (upd N 0 x) = opB N from opB_ag hA (fun t ht => pk_un (by omega)) hI.1.2.2.2.1]
  rfl

