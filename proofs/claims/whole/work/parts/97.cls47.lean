def rfY (L : Nat) (y : PT) : PT := if y.2.1 = false ∧ y.1 < L then wrP y else y
def rfV (L : Nat) (y : PT) : Int32 := if y.2.1 = true ∨ y.1 < L then nI y.1 else -1
theorem nt {b : Bool} (h : ¬ b = true) : b = false := by
  cases b
  · rfl
  · exact absurd rfl h
theorem rf_ft {L : Nat} {y : PT} : ftI (rfY L y) = rfV L y := by
  by_cases w : y.2.1 = true
  · have e : rfY L y = y := by unfold rfY; rw [if_neg (fun z => by have := z.1; rw [w] at this; cases this)]
    rw [e]
    unfold ftI rfV
    rw [if_pos w, if_pos (Or.inl w)]
  · by_cases q : y.1 < L
    · have e : rfY L y = wrP y := by unfold rfY; rw [if_pos ⟨nt w, q⟩]
      rw [e]
      unfold rfV
      rw [if_pos (Or.inr q)]
      exact if_pos rfl
    · have e : rfY L y = y := by unfold rfY; rw [if_neg (fun z => q z.2)]
      rw [e]
      unfold ftI rfV
      rw [if_neg w, if_neg (fun z => z.elim w q)]
theorem ft_neg {y : PT} (hy : y.1 < 2 ^ 31) (h : ¬ 0 ≤ ftI y) : y.2.1 = false := by
  refine nt (fun w => h ?_)
  unfold ftI
  rw [if_pos w]
  exact nI_pos' hy
theorem ft_pos {y : PT} (h : 0 ≤ ftI y) : ¬ y.2.1 = false := by
  intro w
  unfold ftI at h
  rw [if_neg (by rw [w]; decide)] at h
  exact absurd h (by decide)
set_option maxRecDepth 20000 in
theorem k_readFrom (D : En) {h0 : AH} {r u L : Nat} {tp : Nat → Int32} (hX : CT0 h0 r u L tp) {h : AH} (hA : PAc h0 r u h (0, false, [])) : Sp D 46 mX6_readFrom [.ref r, .ref 25] h 0 0 (some (.int (rfV L (txP tp L u)))) (fun h' => PAc h0 r u h' (rfY L (txP tp L u))) := by
  obtain ⟨h97, hu3, hL50, ⟨ft, bt, hTp0, htp⟩, hXH, hby⟩ := id hX
  have hB : PB L ((0, false, []) : PT) := ⟨Nat.zero_le _, fun _ => Nat.le_refl _⟩
  intro post hp
  show Ev D 46 mX6_readFrom 0 [some (.ref (r)), some (.ref (25))] [] h 0 0 post
  refine e_aload_n dX6_readFrom_0 rfl ?_
  refine e_aload_n dX6_readFrom_1 rfl ?_
  refine e_iconst (nI (0)) dX6_readFrom_2 (by decide) ?_
  refine c_V2v (nc := 0) (ns := 0) (mc := 0) (ms := 0) (N := mX6_readText) dX6_readFrom_3 lv_X6_41 mo_X6_readText hA.cn (Nat.le_of_ble_eq_true rfl) (Nat.le_of_ble_eq_true rfl) (by decide) (k_text D hX _ _ hB hA) (fun h hP => ?_)
  have hA := hP
  have hB := hB.gr (GR_ei (tp := tp) (GR_on tp L u 5) _)
  have hTp := hTp0.same (hA.lo h97 (show 25 < 101 by decide)) (hA.lo h97 (show 25 + 1 < 101 by decide))
  have hA : PAc h0 r u h (txP tp L u) := hA
  have hB : PB L (txP tp L u) := hB
  obtain ⟨y1, hy1⟩ : ∃ z, z = txP tp L u := ⟨_, rfl⟩
  rw [← hy1] at hA
  rw [← hy1] at hB
  rw [← hy1] at hp
  have hy9 := hB.1
  refine e_aload_n dX6_readFrom_6 rfl ?_
  refine e_get dX6_readFrom_7 fl_X6_28_6 hA.1 rfl ?_
  refine e_if_ge 28 dX6_readFrom_10 (by decide) (fun hcq10 => ?_) (fun hcq10 => ?_)
  · refine e_aload_n dX6_readFrom_28 rfl ?_
    refine e_get dX6_readFrom_29 fl_X6_28_6 hA.1 rfl ?_
    have e8 : rfY L y1 = y1 := by unfold rfY; rw [if_neg (fun z => ft_pos hcq10 z.1)]
    rw [← e8] at hA
    refine e_top (rfV L y1) (by have z := rf_ft (L := L) (y := y1); rw [e8] at z; exact z) ?_
    exact e_iret dX6_readFrom_32 rfl (hp _ hA)
  · refine e_aload_n dX6_readFrom_13 rfl ?_
    refine e_get dX6_readFrom_14 fl_X6_24_6 hA.1 rfl ?_
    refine e_aload_n dX6_readFrom_17 rfl ?_
    refine e_get dX6_readFrom_18 fl_X6_45_5 hTp.1 rfl ?_
    refine e_icmp_geN 28 dX6_readFrom_21 (by decide) (by omega) (by omega) (fun hcq21 => ?_) (fun hcq21 => ?_)
    · refine e_aload_n dX6_readFrom_28 rfl ?_
      refine e_get dX6_readFrom_29 fl_X6_28_6 hA.1 rfl ?_
      have e8 : rfY L y1 = y1 := by unfold rfY; rw [if_neg (fun z => by omega)]
      rw [← e8] at hA
      refine e_top (rfV L y1) (by have z := rf_ft (L := L) (y := y1); rw [e8] at z; exact z) ?_
      exact e_iret dX6_readFrom_32 rfl (hp _ hA)
    · have hwf : y1.2.1 = false := ft_neg (by omega) hcq10
      refine e_aload_n dX6_readFrom_24 rfl ?_
      refine c_V0v (nc := 0) (ns := 0) (mc := 0) (ms := 0) (N := mX6_fail) dX6_readFrom_25 lv_X6_48 mo_X6_fail hA.cn (Nat.le_of_ble_eq_true rfl) (Nat.le_of_ble_eq_true rfl) (by decide) (k_fail D hA (by have := hB.1; omega)) (fun h hP => ?_)
      have hA := hP
      refine e_aload_n dX6_readFrom_28 rfl ?_
      refine e_get dX6_readFrom_29 fl_X6_28_6 hA.1 rfl ?_
      have e8 : rfY L y1 = (wrP y1) := by unfold rfY; rw [if_pos ⟨hwf, hcq21⟩]
      rw [← e8] at hA
      refine e_top (rfV L y1) (by have z := rf_ft (L := L) (y := y1); rw [e8] at z; exact z) ?_
      exact e_iret dX6_readFrom_32 rfl (hp _ hA)
theorem ClsS.grow {h h' : AH} {s : SS} (hC : ClsS h s) (hl : h.length ≤ h'.length) (hU : ∀ x, x < h.length → h'[x]? = h[x]?) (hB : RB h') : ClsS h' s :=
  hC.mv (fun _ => False) (fun x c _ hc => Or.inl ((hU x (List.getElem?_eq_some_iff.mp hc).1).trans hc)) hB hl (fun x hx _ => hU x (by have := hC.len; omega)) (fun x _ e => e) (Or.inl ⟨id, rfl⟩) (Or.inl ⟨fun _ _ _ => id, rfl⟩) (Or.inl ⟨fun _ _ _ => id, rfl, rfl⟩) (Or.inl (fun _ _ _ => id)) (Or.inl (fun _ _ _ => id)) id (Or.inl ⟨id, id, rfl⟩) (Or.inl ⟨id, rfl⟩) (Or.inl ⟨fun _ _ _ => id, rfl, rfl, rfl⟩)
theorem RB.grow {h h' : AH} (hB : RB h) (hU : ∀ x, x < h.length → h'[x]? = h[x]?) (h97 : 101 ≤ h.length) (hl : h'.length = h.length + 4) {fs gs : List Value} {f k : Nat → Int32} (c0 : h'[h.length]? = some (.inr (6, fs))) (c1 : h'[h.length + 1]? = some (.inr (5, gs))) (c2 : Row0 h' (h.length + 2) 50 f) (c3 : Row0 h' (h.length + 3) 50 k) : RB h' := by
  intro r es hr
  by_cases e : r < h.length
  · rw [hU r e] at hr
    obtain ⟨q1, ⟨g2, q2⟩, ⟨f2, q3⟩, ⟨k2, q4⟩⟩ := hB r es hr
    exact ⟨q1, ⟨g2, (hU _ (List.getElem?_eq_some_iff.mp q2).1).trans q2⟩, ⟨f2, (hU _ (List.getElem?_eq_some_iff.mp q3).1).trans q3⟩, ⟨k2, (hU _ (List.getElem?_eq_some_iff.mp q4).1).trans q4⟩⟩
  · have hrl := (List.getElem?_eq_some_iff.mp hr).1
    rcases (show r = h.length ∨ r = h.length + 1 ∨ r = h.length + 2 ∨ r = h.length + 3 by omega) with e | e | e | e
    · rw [e]; exact ⟨h97, ⟨gs, c1⟩, ⟨f, c2⟩, ⟨k, c3⟩⟩
    · rw [e] at hr; cases c1.symm.trans hr
    · rw [e] at hr; cases c2.symm.trans hr
    · rw [e] at hr; cases c3.symm.trans hr
theorem LandAt.tx {h : AH} {a : Nat} {N : Nat → Int32} (hL : LandAt h a N) (hI : IN N) (ha : a + 11 < 101) {y : PT} {u r : Nat} (hu : u < 3) (hl : y.2.2.length ≤ 50) (hq : ∀ q, q ∈ y.2.2 → q < 20011) (hne : y.2.2 ≠ []) (h3 : N 3 = nI 0) {R8 R9 : Nat → Option Nat} (hr8 : h[a + 9]? = some (.inl (2, 3, .inr (.inr (.inr (.inr R8)))))) (k1 : R9 u = some r) (k2 : ∀ j, j ≠ u → R9 j = R8 j) (hR : RuleAt h r u y.2.2) : LandAt (h.set (a + 9) (.inl (2, 3, .inr (.inr (.inr (.inr R9)))))) a (txM N y u) := by
  have lo : ∀ j, j < 252 → txM N y u j = N j := fun j hj => by
    rw [txM_get, if_neg (by omega), if_neg (by omega)]
    by_cases e : j = 3
    · rw [if_pos e, e, h3]
    · rw [if_neg e]
  have htc : tcN (txM N y u) = tcN N := by unfold tcN; rw [lo 2 (by decide)]
  have hnv : nvN (txM N y u) = nvN N := by unfold nvN; rw [lo 1 (by decide)]
  have htc10 := hI.1.2.2.2.1
  have hnv8 := hI.1.2.1
  obtain ⟨hLo, ⟨f1, hr1, he1⟩, ⟨f2, hr2, he2⟩, ⟨f3, hr3, he3⟩, ⟨T4, hr4, he4⟩, ⟨f5, hr5, he5⟩, ⟨f6, hr6, he6⟩, ⟨f7, hr7, he7⟩, ⟨R8', hr8', he8⟩, ⟨f9, hr9⟩, ⟨f10, hr10⟩, ⟨fG, hrG, heG⟩⟩ := hL
  cases hr8.symm.trans hr8'
  have hU : ∀ x, x ≠ a + 9 → (h.set (a + 9) (.inl (2, 3, .inr (.inr (.inr (.inr R9))))))[x]? = h[x]? := fun x e => List.getElem?_set_ne (fun q => e q.symm)
  have hH : ∀ x, 101 ≤ x → (h.set (a + 9) (.inl (2, 3, .inr (.inr (.inr (.inr R9))))))[x]? = h[x]? := fun x e => hU x (by omega)
  have eop : opB (txM N y u) = opB N := by
    unfold opB
    rw [htc]
    refine orF_congr (fun i hi => ?_)
    unfold openR
    rw [lo _ (by omega)]
  have ewy : ∀ v w, v < 8 → w < 8 → wayR (txM N y u) v w = wayR N v w := fun v w hv hw => by
    unfold wayR
    rw [lo _ (by omega), lo _ (by omega), lo _ (by omega), lo _ (by omega)]
  refine ⟨?_, ⟨f1, (hU _ (by omega)).trans hr1, fun v hv => ?_⟩, ⟨f2, (hU _ (by omega)).trans hr2, fun v hv w hw => ?_⟩, ⟨f3, (hU _ (by omega)).trans hr3, fun v hv => ?_⟩, ⟨T4, (hU _ (by omega)).trans hr4, fun t ht => ?_⟩, ⟨f5, (hU _ (by omega)).trans hr5, fun t ht => ?_⟩, ⟨f6, (hU _ (by omega)).trans hr6, fun t ht => ?_⟩, ⟨f7, (hU _ (by omega)).trans hr7, fun j hj => ?_⟩, ⟨R9, getself hr8, fun w hw => ?_⟩, ⟨f9, (hU _ (by omega)).trans hr9⟩, ⟨f10, (hU _ (by omega)).trans hr10⟩, ⟨fG, (hU _ (by omega)).trans hrG, fun t ht => ?_⟩⟩
  · rw [hU _ (by omega), hLo]
    unfold lnF
    rw [eop, lo 0 (by decide), lo 6 (by decide), lo 1 (by decide), lo 2 (by decide)]
  · rw [lo _ (by omega)]; exact he1 v hv
  · rw [lo _ (by omega)]; exact he2 v hv w hw
  · rw [he3 v hv]
    unfold mdB
    refine orF_congr (fun i hi => ?_)
    rw [lo _ (by omega)]
  · rw [htc] at ht
    obtain ⟨b, e, hb⟩ := he4 t ht
    refine ⟨b, e, hb.1, (hH _ hb.1).trans ?_⟩
    rw [hb.2]
    unfold tgF kdN
    rw [lo _ (by omega), lo _ (by omega), lo _ (by omega), lo _ (by omega), lo _ (by omega)]
  · rw [htc] at ht
    rw [lo _ (by omega)]; exact he5 t ht
  · rw [htc] at ht
    rw [he6 t ht, hnv]
    have hTW := hI.1.2.2.2.2.1 t ht
    unfold servedR
    refine orF_congr (fun v hv => ?_)
    have e1 : kdN (txM N y u) t = kdN N t := by unfold kdN; rw [lo _ (by omega)]
    have e2 : atN (txM N y u) t = atN N t := by unfold atN; rw [lo _ (by omega)]
    unfold servR
    rw [e1, e2, lo _ (by omega), ewy _ _ hTW.2.2.2 (by omega)]
  · rw [lo _ (by omega)]; exact he7 j hj
  · by_cases e : w = u
    · subst e
      rw [txM_self hl hq]
      exact Or.inr ⟨hne, r, k1, hR.hi hH⟩
    · rw [(txM_other hI hu hw hl e).1, k2 w e]
      rcases he8 w hw with z | ⟨z, r2, w2, hr2⟩
      · exact Or.inl z
      · exact Or.inr ⟨z, r2, w2, hr2.hi hH⟩
  · rw [htc] at ht
    rw [show kdN (txM N y u) t = kdN N t by unfold kdN; rw [lo _ (by omega)]]; exact heG t ht
