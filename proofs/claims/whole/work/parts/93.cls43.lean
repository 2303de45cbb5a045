/-! A RULE READS -/
def ftI (y : PT) : Int32 := if y.2.1 = true then nI y.1 else -1
def PAc (h0 : AH) (r u : Nat) (h : AH) (y : PT) : Prop := h[r]? = some (.inr (6, [.ref (4 + u), .ref (r + 1), .ref (r + 3), .int (nI y.1), .int (ftI y)])) ∧ (∃ f z b, RW h (r + 1) 50 f (nI z) b ∧ z ≤ 50 ∧ (y.2.1 = false → z = y.2.2.length ∧ ∀ i, i < z → f i = stC (y.2.2.getD i 0))) ∧ h.length = h0.length ∧ ∀ x, x ≠ r → x ≠ r + 1 → x ≠ r + 2 → h[x]? = h0[x]?
def CT0 (h0 : AH) (r u L : Nat) (tp : Nat → Int32) : Prop := 101 ≤ r ∧ u < 3 ∧ L ≤ 50 ∧ (∃ ft bt, RW h0 25 50 ft (nI L) bt ∧ ∀ i, i < L → ft i = tp i) ∧ XH h0 ∧ ∀ i, i < L → rg (tp i) 255
def RDc (D : En) (d : Nat) (m : Mt) (h0 : AH) (r u L op : Nat) (f : PT → PT) : Prop := ∀ (h : AH) (y : PT), PB L y → PAc h0 r u h y → Sp D d m [.ref r, .ref 25, .int (nI op)] h 0 0 none (fun h' => PAc h0 r u h' (f y))
theorem PAc.cn {h0 h : AH} {r u : Nat} {y : PT} (hA : PAc h0 r u h y) : CN h r RX6 := Or.inl ⟨6, _, _, hA.1, rfl, rfl⟩
theorem PAc.cnS {h0 h : AH} {r u : Nat} {y : PT} (hA : PAc h0 r u h y) : CN h (r + 1) RX5 := by
  obtain ⟨-, ⟨f, z, b, r1, -⟩, -⟩ := hA
  exact r1.cn
theorem PAc.lo {h0 h : AH} {r u : Nat} {y : PT} (hA : PAc h0 r u h y) (h97 : 101 ≤ r) {x : Nat} (hx : x < 101) : h[x]? = h0[x]? := hA.2.2.2 x (by omega) (by omega) (by omega)
theorem PAc.obj {h0 h : AH} {r u : Nat} {y y' : PT} (hA : PAc h0 r u h y) (h1 : y'.2 = y.2 ∨ y'.2.1 = true) {c : AC} (hc : c = .inr (6, [.ref (4 + u), .ref (r + 1), .ref (r + 3), .int (nI y'.1), .int (ftI y')])) : PAc h0 r u (h.set r c) y' := by
  obtain ⟨a1, ⟨f, z, b, r1, z1, z2⟩, a3, a4⟩ := hA
  refine ⟨by rw [getself a1, hc], ⟨f, z, b, r1.same (List.getElem?_set_ne (by omega)) (List.getElem?_set_ne (by omega)), z1, fun q => ?_⟩, by rw [List.length_set]; exact a3, fun x e1 e2 e3 => (List.getElem?_set_ne (fun e => e1 e.symm)).trans (a4 x e1 e2 e3)⟩
  rcases h1 with e | e
  · rw [e] at q ⊢; exact z2 q
  · rw [e] at q; cases q
theorem PAc.adv {h0 h : AH} {r u : Nat} {y : PT} (hA : PAc h0 r u h y) (hw : y.2.1 = false) : PAc h0 r u (h.set r (.inr (6, [.ref (4 + u), .ref (r + 1), .ref (r + 3), .int (nI (y.1 + 1)), .int (ftI y)]))) (adP y) := by
  refine hA.obj (y' := adP y) (Or.inl rfl) ?_
  have e : ftI (adP y) = ftI y := by
    unfold ftI
    rw [show (adP y).2.1 = y.2.1 from rfl, hw, if_neg (by decide), if_neg (by decide)]
  rw [e]
  rfl
theorem PB.len {L q : Nat} {y : PT} (h : PB L (cdP q y)) (hL : L ≤ 50) : y.2.1 = false → y.2.2.length < 50 := by
  intro hw
  have h1 := h.2 (by rw [cdP_w]; exact hw)
  rw [cdP_c q y hw, List.length_append] at h1
  have h2 := h.1
  have : [q].length = 1 := rfl
  omega
theorem hr_b {L r u : Nat} {tp : Nat → Int32} {h0 : AH} (hX : CT0 h0 r u L tp) (y : PT) (h : ¬ hrP tp L y < 0) : ∃ b, b < 256 ∧ hrP tp L y = nI b := by
  unfold hrP at h ⊢
  split
  · rename_i q
    obtain ⟨e, -, l⟩ := wiN (hX.2.2.2.2.2 _ q.2) (by decide) (by decide)
    exact ⟨_, by omega, e⟩
  · rename_i q
    rw [if_neg q] at h
    exact absurd (by decide) h
theorem i2c_b : ∀ b, b < 256 → ((nI b).toUInt32 % 65536).toInt32 = nI b := by decide +kernel
set_option maxRecDepth 20000 in
theorem k_dig (D : En) {h : AH} (x : Int32) : Sp D 0 mX6_isDigit [.int (x)] h 0 0 (some (.int (b2 (nI 48 ≤ x ∧ x ≤ nI 57)))) (fun h' => h' = h) := by
  intro post hp
  show Ev D 0 mX6_isDigit 0 [some (.int (x))] [] h 0 0 post
  refine e_iload_n dX6_isDigit_0 rfl ?_
  refine e_bipush (nI (48)) dX6_isDigit_1 (by decide) ?_
  refine e_icmp_lt 16 dX6_isDigit_3 (by decide) (fun hcq3 => ?_) (fun hcq3 => ?_)
  · refine e_iconst (nI (0)) dX6_isDigit_16 (by decide) ?_
    first | exact e_top _ (b2_t ⟨Int32.not_lt.mp hcq3, Int32.not_lt.mp hcq9⟩).symm (e_zretB dX6_isDigit_17 rfl (hp _ rfl)) | exact e_top _ (b2_f (fun q => by first | exact Int32.not_lt.mpr q.1 hcq3 | exact Int32.not_lt.mpr q.2 hcq9)).symm (e_zretB dX6_isDigit_17 rfl (hp _ rfl))
  · refine e_iload_n dX6_isDigit_6 rfl ?_
    refine e_bipush (nI (57)) dX6_isDigit_7 (by decide) ?_
    refine e_icmp_gt 16 dX6_isDigit_9 (by decide) (fun hcq9 => ?_) (fun hcq9 => ?_)
    · refine e_iconst (nI (0)) dX6_isDigit_16 (by decide) ?_
      first | exact e_top _ (b2_t ⟨Int32.not_lt.mp hcq3, Int32.not_lt.mp hcq9⟩).symm (e_zretB dX6_isDigit_17 rfl (hp _ rfl)) | exact e_top _ (b2_f (fun q => by first | exact Int32.not_lt.mpr q.1 hcq3 | exact Int32.not_lt.mpr q.2 hcq9)).symm (e_zretB dX6_isDigit_17 rfl (hp _ rfl))
    · refine e_iconst (nI (1)) dX6_isDigit_12 (by decide) ?_
      refine e_goto 17 dX6_isDigit_13 (by decide) ?_
      first | exact e_top _ (b2_t ⟨Int32.not_lt.mp hcq3, Int32.not_lt.mp hcq9⟩).symm (e_zretB dX6_isDigit_17 rfl (hp _ rfl)) | exact e_top _ (b2_f (fun q => by first | exact Int32.not_lt.mpr q.1 hcq3 | exact Int32.not_lt.mpr q.2 hcq9)).symm (e_zretB dX6_isDigit_17 rfl (hp _ rfl))
set_option maxRecDepth 20000 in
theorem k_fail (D : En) {h0 h : AH} {r u : Nat} {y : PT} (hA : PAc h0 r u h y) (hy : y.1 < 2 ^ 31 := by omega) : Sp D 0 mX6_fail [.ref r] h 0 0 none (fun h' => PAc h0 r u h' (wrP y)) := by
  intro post hp
  show Ev D 0 mX6_fail 0 [some (.ref r)] [] h 0 0 post
  refine e_aload_n dX6_fail_0 rfl ?_
  refine e_get dX6_fail_1 fl_X6_28_6 hA.1 rfl ?_
  cases hw : y.2.1
  · refine e_top (-1) (by unfold ftI; rw [hw, if_neg (by decide)]) ?_
    refine e_if_ge 15 dX6_fail_4 (by decide) (fun hc => absurd hc (by decide)) (fun hc => ?_)
    refine e_aload_n dX6_fail_7 rfl ?_
    refine e_aload_n dX6_fail_8 rfl ?_
    refine e_get dX6_fail_9 fl_X6_24_6 hA.1 rfl ?_
    refine e_put dX6_fail_12 fl_X6_28_6 ft_6 (fun q hq => Or.inl (by cases hq; rfl)) hA.1 (by show _ < 5; decide) rfl rfl ?_
    refine e_vret dX6_fail_15 rfl (hp _ (hA.obj (Or.inr rfl) ?_))
    show (.inr (6, [.ref (4 + u), .ref (r + 1), .ref (r + 3), .int (nI y.1), .int (nI y.1)]) : AC) = _
    rw [show ftI (wrP y) = nI y.1 from if_pos rfl]
    rfl
  · refine e_top (nI y.1) (by unfold ftI; rw [hw, if_pos rfl]) ?_
    refine e_if_geN 15 dX6_fail_4 (by decide) hy ?_
    have e : wrP y = y := by
      unfold wrP
      rw [← hw]
    rw [e] at hp
    exact e_vret dX6_fail_15 rfl (hp _ hA)
set_option maxRecDepth 20000 in
theorem k_next (D : En) {h0 : AH} {r u L : Nat} {tp : Nat → Int32} (hX : CT0 h0 r u L tp) {h : AH} {y : PT} (hB : PB L y) (hA : PAc h0 r u h y) : Sp D 1 mX6_next [.ref r, .ref 25] h 0 0 (some (.int (hrP tp L y))) (fun h' => h' = h) := by
  obtain ⟨h97, hu3, hL50, ⟨ft, bt, hTp0, htp⟩, hXH, hby⟩ := id hX
  have hTp := hTp0.same (hA.lo h97 (show 25 < 101 by decide)) (hA.lo h97 (show 25 + 1 < 101 by decide))
  have hy := hB.1
  intro post hp
  show Ev D 1 mX6_next 0 [some (.ref r), some (.ref 25)] [] h 0 0 post
  refine e_aload_n dX6_next_0 rfl ?_
  refine e_get dX6_next_1 fl_X6_28_6 hA.1 rfl ?_
  cases hw : y.2.1
  · refine e_top (-1) (by unfold ftI; rw [hw, if_neg (by decide)]) ?_
    refine e_if_ge 30 dX6_next_4 (by decide) (fun hc => absurd hc (by decide)) (fun hc => ?_)
    refine e_aload_n dX6_next_7 rfl ?_
    refine e_aload_n dX6_next_8 rfl ?_
    refine e_get dX6_next_9 fl_X6_24_6 hA.1 rfl ?_
    refine c_V1iR (N := mX5_has) dX6_next_12 lv_X6_62 mo_X5_has hTp.cn (Nat.le_of_ble_eq_true rfl) (Nat.le_of_ble_eq_true rfl) (by decide) (k_rhas D hTp (by omega) (nI y.1)) ?_
    refine e_if_eqB 30 dX6_next_15 (by decide) (fun hc => ?_) (fun hc => ?_)
    · refine e_iconst (-1) dX6_next_30 (by decide) ?_
      have e : hrP tp L y = -1 := by
        unfold hrP
        rw [if_neg]
        intro q
        refine hc ((has_eq (by omega)).mpr ⟨nI_nl (by omega), fun w => ?_⟩)
        rw [nI_leI (by omega) (by omega)] at w
        omega
      rw [e] at hp
      exact e_iret dX6_next_31 rfl (hp _ rfl)
    · have hlt : y.1 < L := by
        have := ((has_eq (by omega)).mp hc).2
        rw [nI_leI (by omega) (by omega)] at this
        omega
      refine e_aload_n dX6_next_18 rfl ?_
      refine e_get dX6_next_19 fl_X6_51_5 hTp.1 rfl ?_
      refine e_aload_n dX6_next_22 rfl ?_
      refine e_get dX6_next_23 fl_X6_24_6 hA.1 rfl ?_
      refine e_ild y.1 (tp y.1) dX6_next_26 hTp.2 rfl (by omega) (by decide) (htp _ hlt) ?_
      refine e_goto 31 dX6_next_27 (by decide) ?_
      have e : hrP tp L y = tp y.1 := by
        unfold hrP
        rw [if_pos ⟨hw, hlt⟩]
      rw [e] at hp
      exact e_iret dX6_next_31 rfl (hp _ rfl)
  · refine e_top (nI y.1) (by unfold ftI; rw [hw, if_pos rfl]) ?_
    refine e_if_geN 30 dX6_next_4 (by decide) (by omega) ?_
    refine e_iconst (-1) dX6_next_30 (by decide) ?_
    have e : hrP tp L y = -1 := by
      unfold hrP
      rw [if_neg (fun q => by rw [hw] at q; exact absurd q.1 (by decide))]
    rw [e] at hp
    exact e_iret dX6_next_31 rfl (hp _ rfl)
theorem k_cadd (D : En) {h0 : AH} {r u L : Nat} {tp : Nat → Int32} (hX : CT0 h0 r u L tp) {h : AH} {y : PT} (hA : PAc h0 r u h y) (q : Nat) (v : Int32) (hv : v = stC q) (hl : y.2.1 = false → y.2.2.length < 50) : Sp D 0 mX5_add [.ref (r + 1), .int v] h 0 0 none (fun h' => PAc h0 r u h' (cdP q y)) := by
  obtain ⟨a1, ⟨f, z, b, r1, z1, z2⟩, a3, a4⟩ := hA
  by_cases hz : z < 50
  · refine (k_radd D r1 (by decide) hz v).weak (fun h' hP => ?_)
    obtain ⟨w1, w2, w3⟩ := hP
    refine ⟨?_, ⟨_, z + 1, b, w1, by omega, fun hw => ?_⟩, w2.trans a3, fun x e1 e2 e3 => (w3 x e2 e3).trans (a4 x e1 e2 e3)⟩
    · rw [w3 r (by omega) (by omega), a1]
      unfold ftI
      rw [cdP_1, cdP_w]
    · rw [cdP_w] at hw
      obtain ⟨e1, e2⟩ := z2 hw
      rw [cdP_c q y hw, List.length_append]
      refine ⟨by rw [e1]; rfl, fun i hi => ?_⟩
      by_cases e : i = z
      · rw [e, pk_us, hv, e1, List.getD_eq_getElem?_getD, List.getElem?_concat_length]
        rfl
      · rw [pk_un e, e2 i (by omega), List.getD_eq_getElem?_getD, List.getD_eq_getElem?_getD, List.getElem?_append_left (by omega)]
  · have ez : z = 50 := by omega
    rw [ez] at r1
    refine (k_raddF D r1 (by decide) v).weak (fun h' hP => ?_)
    subst hP
    have hw : y.2.1 = true := by
      cases q9 : y.2.1
      · have := (z2 q9).1
        have := hl q9
        omega
      · rfl
    have e : cdP q y = y := by unfold cdP; rw [if_pos hw]
    rw [e]
    exact ⟨a1, ⟨f, z, b, by rw [ez]; exact r1, z1, z2⟩, a3, a4⟩
