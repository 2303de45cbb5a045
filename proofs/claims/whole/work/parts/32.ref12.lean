/-! the reference's reading: fields 1 place, 2 open, 3 use, 4 wrong, 5 coded; row 7 codes -/
def tpR (N : Nat → Int32) : Nat → Int32 := fun i => N (182 + i)
def PAt (τ0 τ c : Nat → Int32) (u op : Nat) (s : PT) : Prop := τ 1 = nI s.1 ∧ τ 2 = nI op ∧ τ 3 = nI u ∧ τ 4 = b2 (s.2.1 = true) ∧ τ 5 = nI s.2.2.length ∧ (∀ i, i < s.2.2.length → c i = nI (s.2.2.getD i 0)) ∧ τ 0 = τ0 0 ∧ τ 6 = τ0 6 ∧ τ 7 = τ0 7
def PA (h0 h : AH) (N : Nat → Int32) (σ0 : Nat → Nat → Int32) (τ0 : Nat → Int32) (u op : Nat) (s : PT) : Prop := ∃ (c τ : Nat → Int32), RefAt h N (va_up σ0 7 c) τ ∧ FrR h0 h ∧ PAt τ0 τ c u op s
def PB (L : Nat) (s : PT) : Prop := s.1 ≤ L ∧ (s.2.1 = false → s.2.2.length ≤ s.1)
theorem PB.gr {L u : Nat} {s s' : PT} (hB : PB L s) (hG : GR L u s s') : PB L s' := ⟨hG.2.1 hB.1, fun z => by
  obtain ⟨a, w, e1, e2, -⟩ := hG.2.2 z
  rw [e1, List.length_append]
  have := hB.2 a
  omega⟩
theorem PB.adv {L : Nat} {s : PT} (hB : PB L s) (hl : s.1 < L) : PB L (adP s) := ⟨hl, fun z => by
  have := hB.2 z
  show _ ≤ s.1 + 1
  exact Nat.le_succ_of_le this⟩
theorem PB.lp {L u q : Nat} {s y : PT} (hB : PB L s) (hw : s.2.1 = false) (hG : GR L u (adP s) y) (hl : s.1 < L) : PB L (cdP q y) ∧ s.1 + 1 ≤ (cdP q y).1 ∧ (y.2.1 = false → y.2.2.length < 60 ∨ 59 < L) := by
  have h1 := hG.1
  have h2 := hG.2.1 hl
  have h3 := hB.2 hw
  refine ⟨⟨by rw [cdP_1]; exact h2, fun z => ?_⟩, by rw [cdP_1]; exact h1, fun z => ?_⟩
  · rw [cdP_w] at z
    obtain ⟨a, w, e1, e2, -⟩ := hG.2.2 z
    rw [cdP_1, cdP_c q y z, e1]
    simp only [List.length_append, List.length_cons, List.length_nil]
    have : (adP s).2.2.length = s.2.2.length := rfl
    have : (adP s).1 = s.1 + 1 := rfl
    omega
  · obtain ⟨a, w, e1, e2, -⟩ := hG.2.2 z
    rw [e1]
    simp only [List.length_append]
    have : (adP s).2.2.length = s.2.2.length := rfl
    have : (adP s).1 = s.1 + 1 := rfl
    omega
theorem PA.cn {h0 h : AH} {N : Nat → Int32} {σ0 : Nat → Nat → Int32} {τ0 : Nat → Int32} {u op : Nat} {s : PT} (hA : PA h0 h N σ0 τ0 u op s) : CN h 78 RX12 := by
  obtain ⟨c, τ, hR, -⟩ := hA
  exact hR.cn
theorem PAt.p1 {τ0 τ c : Nat → Int32} {u op : Nat} {s : PT} (hK : PAt τ0 τ c u op s) (k : Nat) : PAt τ0 (upd τ 1 (nI k)) c u op (k, s.2) :=
  ⟨pk_us, (pk_un (by decide)).trans hK.2.1, (pk_un (by decide)).trans hK.2.2.1, (pk_un (by decide)).trans hK.2.2.2.1, (pk_un (by decide)).trans hK.2.2.2.2.1, hK.2.2.2.2.2.1, (pk_un (by decide)).trans hK.2.2.2.2.2.2.1, (pk_un (by decide)).trans hK.2.2.2.2.2.2.2.1, (pk_un (by decide)).trans hK.2.2.2.2.2.2.2.2⟩
theorem PAt.p2 {τ0 τ c : Nat → Int32} {u op : Nat} {s : PT} (hK : PAt τ0 τ c u op s) (k : Nat) : PAt τ0 (upd τ 2 (nI k)) c u k s :=
  ⟨(pk_un (by decide)).trans hK.1, pk_us, (pk_un (by decide)).trans hK.2.2.1, (pk_un (by decide)).trans hK.2.2.2.1, (pk_un (by decide)).trans hK.2.2.2.2.1, hK.2.2.2.2.2.1, (pk_un (by decide)).trans hK.2.2.2.2.2.2.1, (pk_un (by decide)).trans hK.2.2.2.2.2.2.2.1, (pk_un (by decide)).trans hK.2.2.2.2.2.2.2.2⟩
theorem PAt.p4 {τ0 τ c : Nat → Int32} {u op : Nat} {s : PT} (hK : PAt τ0 τ c u op s) (x : Int32) (b : Bool) (hx : x = b2 (b = true)) : PAt τ0 (upd τ 4 x) c u op (s.1, b, s.2.2) :=
  ⟨(pk_un (by decide)).trans hK.1, (pk_un (by decide)).trans hK.2.1, (pk_un (by decide)).trans hK.2.2.1, pk_us.trans hx, (pk_un (by decide)).trans hK.2.2.2.2.1, hK.2.2.2.2.2.1, (pk_un (by decide)).trans hK.2.2.2.2.2.2.1, (pk_un (by decide)).trans hK.2.2.2.2.2.2.2.1, (pk_un (by decide)).trans hK.2.2.2.2.2.2.2.2⟩
theorem PAt.p5 {τ0 τ c : Nat → Int32} {u op : Nat} {s : PT} (hK : PAt τ0 τ c u op s) (q : Nat) (hw : ¬ s.2.1 = true) : PAt τ0 (upd τ 5 (nI (s.2.2.length + 1))) (upd c s.2.2.length (nI q)) u op (cdP q s) := by
  unfold cdP
  rw [if_neg hw]
  refine ⟨(pk_un (by decide)).trans hK.1, (pk_un (by decide)).trans hK.2.1, (pk_un (by decide)).trans hK.2.2.1, (pk_un (by decide)).trans hK.2.2.2.1, pk_us.trans (by show _ = nI (s.2.2 ++ [q]).length; rw [List.length_append]; rfl), fun i hi => ?_, (pk_un (by decide)).trans hK.2.2.2.2.2.2.1, (pk_un (by decide)).trans hK.2.2.2.2.2.2.2.1, (pk_un (by decide)).trans hK.2.2.2.2.2.2.2.2⟩
  show upd c s.2.2.length (nI q) i = nI ((s.2.2 ++ [q]).getD i 0)
  have hi2 : i < (s.2.2 ++ [q]).length := hi
  rw [List.length_append] at hi2
  simp only [List.length_cons, List.length_nil] at hi2
  by_cases e : i = s.2.2.length
  · subst e
    rw [pk_us]
    simp [List.getD_eq_getElem?_getD]
  · rw [pk_un e, hK.2.2.2.2.2.1 i (by omega)]
    simp only [List.getD_eq_getElem?_getD]
    rw [List.getElem?_append_left (by omega)]
theorem va_upUp {α : Type} (σ : Nat → α) (i : Nat) (f g : α) : va_up (va_up σ i f) i g = va_up σ i g := by
  funext j
  by_cases e : j = i
  · subst e; rw [va_upS, va_upS]
  · rw [va_upN _ _ e, va_upN _ _ e, va_upN _ _ e]
def tkP (tp : Nat → Int32) (L k : Nat) (s : PT) : PT := if hrP tp L s = nI k then adP s else s
/-- a reader's contract -/
def RD (D : En) (d : Nat) (m : Mt) (N : Nat → Int32) (σ0 : Nat → Nat → Int32) (τ0 : Nat → Int32) (u op L : Nat) (f : PT → PT) : Prop := ∀ (h0 h : AH) (s : PT), PB L s → PA h0 h N σ0 τ0 u op s → Sp D d m [.ref 78] h 0 0 none (fun h' => PA h0 h' N σ0 τ0 u op (f s))
set_option maxRecDepth 20000 in
theorem s_here (D : En) {h0 h : AH} {N : Nat → Int32} {σ0 : Nat → Nat → Int32} {τ0 τ c : Nat → Int32} {u op L : Nat} {s : PT} (hL : N 3 = nI L) (hL50 : L ≤ 50) (hB : PB L s) (hR : RefAt h N (va_up σ0 7 c) τ) (hF : FrR h0 h) (hK : PAt τ0 τ c u op s) : Sp D 0 mX12_here [.ref (78)] h 0 0 (some (.int (hrP (tpR N) L s))) (fun h' => h' = h) := by
  have hB1 := hB.1
  intro post hp
  show Ev D 0 mX12_here 0 [some (.ref (78))] [] h 0 0 post
  refine e_aload_n dX12_here_0 rfl ?_
  refine e_get dX12_here_1 fl_X12_173_12 hR.1 rfl ?_
  refine e_top (b2 ((s).2.1 = true)) (hK.2.2.2.1) ?_
  refine e_if_neB 36 dX12_here_4 (by decide) (fun hcq4 => ?_) (fun hcq4 => ?_)
  · refine e_iconst (((-1))) dX12_here_36 (by decide) ?_
    refine e_top (hrP (tpR N) L s) (by first | exact (if_pos ⟨eq_false_of_ne_true hcq4, hcq17⟩).symm | exact (if_neg (fun zz => by rw [hcq4] at zz; exact absurd zz.1 (by decide))).symm | exact (if_neg (fun zz => absurd zz.2 (Nat.not_lt.mpr hcq17))).symm) ?_
    exact e_iret dX12_here_37 rfl (hp _ rfl)
  · refine e_aload_n dX12_here_7 rfl ?_
    refine e_get dX12_here_8 fl_X12_177_12 hR.1 rfl ?_
    refine e_top (nI ((s).1)) (hK.1) ?_
    refine e_aload_n dX12_here_11 rfl ?_
    refine e_get dX12_here_12 fl_X12_9_12 hR.1 rfl ?_
    refine e_iconst (nI (3)) dX12_here_15 (by decide) ?_
    refine e_ild (3) (nI (L)) dX12_here_16 hR.2.1 rfl (by omega) (by decide) hL ?_
    refine e_icmp_geN 36 dX12_here_17 (by decide) (by omega) (by omega) (fun hcq17 => ?_) (fun hcq17 => ?_)
    · refine e_iconst (((-1))) dX12_here_36 (by decide) ?_
      refine e_top (hrP (tpR N) L s) (by first | exact (if_pos ⟨eq_false_of_ne_true hcq4, hcq17⟩).symm | exact (if_neg (fun zz => by rw [hcq4] at zz; exact absurd zz.1 (by decide))).symm | exact (if_neg (fun zz => absurd zz.2 (Nat.not_lt.mpr hcq17))).symm) ?_
      exact e_iret dX12_here_37 rfl (hp _ rfl)
    · refine e_aload_n dX12_here_20 rfl ?_
      refine e_get dX12_here_21 fl_X12_9_12 hR.1 rfl ?_
      refine e_sipush (nI (182)) dX12_here_24 (by decide) ?_
      refine e_aload_n dX12_here_27 rfl ?_
      refine e_get dX12_here_28 fl_X12_177_12 hR.1 rfl ?_
      refine e_top (nI ((s).1)) (hK.1) ?_
      refine e_iaddN dX12_here_31 ?_
      refine e_ild (182 + ((s).1)) ((N (182 + ((s).1)))) dX12_here_32 hR.2.1 rfl (by omega) (by decide) rfl ?_
      refine e_goto 37 dX12_here_33 (by decide) ?_
      refine e_top (hrP (tpR N) L s) (by first | exact (if_pos ⟨eq_false_of_ne_true hcq4, hcq17⟩).symm | exact (if_neg (fun zz => by rw [hcq4] at zz; exact absurd zz.1 (by decide))).symm | exact (if_neg (fun zz => absurd zz.2 (Nat.not_lt.mpr hcq17))).symm) ?_
      exact e_iret dX12_here_37 rfl (hp _ rfl)
set_option maxRecDepth 20000 in
theorem s_takes (D : En) {h0 h : AH} {N : Nat → Int32} {σ0 : Nat → Nat → Int32} {τ0 τ c : Nat → Int32} {u op L : Nat} {s : PT} (hL : N 3 = nI L) (hL50 : L ≤ 50) (hB : PB L s) (hR : RefAt h N (va_up σ0 7 c) τ) (hF : FrR h0 h) (hK : PAt τ0 τ c u op s) (k : Nat) (hk : k < 200) : Sp D 1 mX12_takes [.ref (78), .int (nI (k))] h 0 0 (some (.int (b2 (hrP (tpR N) L s = nI k)))) (fun h' => PA h0 h' N σ0 τ0 u op (tkP (tpR N) L k s)) := by
  have hB1 := hB.1
  intro post hp
  show Ev D 1 mX12_takes 0 [some (.ref (78)), some (.int (nI (k))), none] [] h 0 0 post
  refine e_aload_n dX12_takes_0 rfl ?_
  refine c_V0iR (N := mX12_here) dX12_takes_1 lv_X12_181 mo_X12_here hR.cn (Nat.le_of_ble_eq_true rfl) (Nat.le_of_ble_eq_true rfl) (by decide) (s_here D hL hL50 hB hR hF hK) ?_
  refine e_iload_n dX12_takes_4 rfl ?_
  refine e_icmp_ne 12 dX12_takes_5 (by decide) (fun hcq5 => ?_) (fun hcq5 => ?_)
  · refine e_iconst (nI (0)) dX12_takes_12 (by decide) ?_
    refine e_istore_n dX12_takes_13 (by decide) ?_
    refine e_aload_n dX12_takes_14 rfl ?_
    refine e_dup dX12_takes_15 rfl ?_
    refine e_get dX12_takes_16 fl_X12_177_12 hR.1 rfl ?_
    refine e_top (nI ((s).1)) (hK.1) ?_
    refine e_iload_n dX12_takes_19 rfl ?_
    refine e_if_eqN 27 dX12_takes_20 (by decide) (by omega) (fun hcq20 => ?_) (fun hcq20 => absurd hcq20 (by decide))
    refine e_iconst (nI (0)) dX12_takes_27 (by decide) ?_
    refine e_iaddN dX12_takes_28 ?_
    refine r_put (upd τ 1 (nI (((s).1) + 0))) dX12_takes_29 fl_X12_177_12 hR hF rfl (by decide) rfl rfl rfl (fun h hR hF => ?_)
    have hK := hK.p1 (((s).1) + 0)
    obtain ⟨τ, hτq⟩ : ∃ z, z = upd τ 1 (nI (((s).1) + 0)) := ⟨_, rfl⟩
    rw [← hτq] at hR hK
    clear hτq
    skip
    refine e_iload_n dX12_takes_32 rfl ?_
    refine e_top (b2 (hrP (tpR N) L s = nI k)) ((b2_f hcq5).symm) ?_
    exact e_zretB dX12_takes_33 rfl (hp _ ⟨c, τ, hR, hF, by unfold tkP; rw [if_neg hcq5]; exact hK⟩)
  · refine e_iconst (nI (1)) dX12_takes_8 (by decide) ?_
    refine e_goto 13 dX12_takes_9 (by decide) ?_
    refine e_istore_n dX12_takes_13 (by decide) ?_
    refine e_aload_n dX12_takes_14 rfl ?_
    refine e_dup dX12_takes_15 rfl ?_
    refine e_get dX12_takes_16 fl_X12_177_12 hR.1 rfl ?_
    refine e_top (nI ((s).1)) (hK.1) ?_
    refine e_iload_n dX12_takes_19 rfl ?_
    refine e_if_eqN 27 dX12_takes_20 (by decide) (by omega) (fun hcq20 => absurd hcq20 (by decide)) (fun hcq20 => ?_)
    refine e_iconst (nI (1)) dX12_takes_23 (by decide) ?_
    refine e_goto 28 dX12_takes_24 (by decide) ?_
    refine e_iaddN dX12_takes_28 ?_
    refine r_put (upd τ 1 (nI (((s).1) + 1))) dX12_takes_29 fl_X12_177_12 hR hF rfl (by decide) rfl rfl rfl (fun h hR hF => ?_)
    have hK := hK.p1 (((s).1) + 1)
    obtain ⟨τ, hτq⟩ : ∃ z, z = upd τ 1 (nI (((s).1) + 1)) := ⟨_, rfl⟩
    rw [← hτq] at hR hK
    clear hτq
    skip
    refine e_iload_n dX12_takes_32 rfl ?_
    refine e_top (b2 (hrP (tpR N) L s = nI k)) ((b2_t hcq5).symm) ?_
    exact e_zretB dX12_takes_33 rfl (hp _ ⟨c, τ, hR, hF, by unfold tkP; rw [if_pos hcq5]; exact hK⟩)
set_option maxRecDepth 20000 in
theorem s_codes (D : En) {h0 h : AH} {N : Nat → Int32} {σ0 : Nat → Nat → Int32} {τ0 τ c : Nat → Int32} {u op L : Nat} {s : PT} (hL : N 3 = nI L) (hL50 : L ≤ 50) (hB : PB L s) (hR : RefAt h N (va_up σ0 7 c) τ) (hF : FrR h0 h) (hK : PAt τ0 τ c u op s) (qc : Nat) (hl60 : s.2.1 = false → s.2.2.length < 60) : Sp D 0 mX12_codes [.ref (78), .int (nI (qc))] h 0 0 (none) (fun h' => PA h0 h' N σ0 τ0 u op (cdP qc s)) := by
  intro post hp
  show Ev D 0 mX12_codes 0 [some (.ref (78)), some (.int (nI (qc)))] [] h 0 0 post
  refine e_aload_n dX12_codes_0 rfl ?_
  refine e_get dX12_codes_1 fl_X12_173_12 hR.1 rfl ?_
  refine e_top (b2 ((s).2.1 = true)) (hK.2.2.2.1) ?_
  refine e_if_neB 27 dX12_codes_4 (by decide) (fun hcq4 => ?_) (fun hcq4 => ?_)
  · exact e_vret dX12_codes_27 rfl (hp _ ⟨_, τ, hR, hF, by first | exact hK | (unfold cdP; rw [if_pos hcq4]; exact hK)⟩)
  · have hl9 := hl60 (eq_false_of_ne_true hcq4)
    refine e_aload_n dX12_codes_7 rfl ?_
    refine e_get dX12_codes_8 fl_X12_40_12 hR.1 rfl ?_
    refine e_aload_n dX12_codes_11 rfl ?_
    refine e_get dX12_codes_12 fl_X12_184_12 hR.1 rfl ?_
    refine e_top (nI ((s).2.2.length)) (hK.2.2.2.2.1) ?_
    refine e_iload_n dX12_codes_15 rfl ?_
    refine r_st 7 ((s).2.2.length) dX12_codes_16 hR hF rfl (by decide) rfl (by show _ < 60; omega) (fun h hR hF => ?_)
    rw [va_upUp, va_upS] at hR
    refine e_aload_n dX12_codes_17 rfl ?_
    refine e_dup dX12_codes_18 rfl ?_
    refine e_get dX12_codes_19 fl_X12_184_12 hR.1 rfl ?_
    refine e_top (nI ((s).2.2.length)) (hK.2.2.2.2.1) ?_
    refine e_iconst (nI (1)) dX12_codes_22 (by decide) ?_
    refine e_iaddN dX12_codes_23 ?_
    refine r_put (upd τ 5 (nI (((s).2.2.length) + 1))) dX12_codes_24 fl_X12_184_12 hR hF rfl (by decide) rfl rfl rfl (fun h hR hF => ?_)
    have hK := hK.p5 qc hcq4
    obtain ⟨τ, hτq⟩ : ∃ z, z = upd τ 5 (nI (((s).2.2.length) + 1)) := ⟨_, rfl⟩
    rw [← hτq] at hR hK
    clear hτq
    exact e_vret dX12_codes_27 rfl (hp _ ⟨_, τ, hR, hF, by first | exact hK | (unfold cdP; rw [if_pos hcq4]; exact hK)⟩)
set_option maxRecDepth 20000 in
theorem l_product (D : En) {N : Nat → Int32} {σ0 : Nat → Nat → Int32} {τ0 : Nat → Int32} {u op L dq : Nat} (hL : N 3 = nI L) (hL50 : L ≤ 50) {f : PT → PT} (hG : ∀ s, GR L u s (f s)) (hf : RD D dq mX12_one N σ0 τ0 u op L f) (hdq : 2 ≤ dq) : ∀ (n : Nat) (h0 h : AH) (s : PT), L ≤ s.1 + n → PB L s → PA h0 h N σ0 τ0 u op (if oPr (hrP (tpR N) L s) = 0 then s else adP s) → ∀ {post : Option Value → AH → Prop}, (∀ h', PA h0 h' N σ0 τ0 u op (lpP (tpR N) L oPr f n s) → post none h') → Ev D (dq + 1) mX12_product 51 [some (.ref 78), some (.int (nI (oPr (hrP (tpR N) L s))))] [] h 0 0 post := by
  intro n
  induction n with
  | zero =>
    intro h0 h s hm hB hA post hp
    have hz9 : oPr (hrP (tpR N) L s) = 0 := by
      have e9 : hrP (tpR N) L s = -1 := if_neg (fun zz => absurd zz.2 (by omega))
      rw [e9]; decide
    refine e_iload_n dX12_product_51 rfl ?_
    refine e_if_leN 114 dX12_product_52 (by decide) (by omega) (fun hcq52 => ?_) (fun hcq52 => absurd hcq52 (by omega))
    exact e_vret dX12_product_114 rfl (hp _ (by rw [if_pos hz9] at hA; exact hA))
  | succ n ih =>
    intro h0 h s hm hB hA post hp
    have hl20 := ops_pr (hrP (tpR N) L s)
    refine e_iload_n dX12_product_51 rfl ?_
    refine e_if_leN 114 dX12_product_52 (by decide) (by omega) (fun hcq52 => ?_) (fun hcq52 => ?_)
    · exact e_vret dX12_product_114 rfl (hp _ (by rw [if_pos hcq52] at hA; rw [lpP, if_pos hcq52]; exact hA))
    · rw [if_neg (show ¬ oPr (hrP (tpR N) L s) = 0 by omega)] at hA
      have hqt := hrP_t (tp := tpR N) (L := L) (s := s) (fun e9 => by rw [e9] at hcq52; exact absurd hcq52 (by decide))
      have hB0 := hB
      have hB := hB.adv hqt.2
      refine e_aload_n dX12_product_55 rfl ?_
      refine c_V0v (N := mX12_one) dX12_product_56 lv_X12_206 mo_X12_one hA.cn (Nat.le_of_ble_eq_true rfl) (Nat.le_of_ble_eq_true rfl) (by omega) (hf _ _ _ hB hA) (fun h hP => ?_)
      have hA := hP
      obtain ⟨hB2, hm2, hl60⟩ := hB0.lp (q := 0) hqt.1 (hG (adP (s))) hqt.2
      have hl60 : (f (adP (s))).2.1 = false → (f (adP (s))).2.2.length < 60 := fun zz => by rcases hl60 zz with e9 | e9 <;> omega
      have hB := hB.gr (hG (adP (s)))
      refine e_aload_n dX12_product_59 rfl ?_
      refine e_iload_n dX12_product_60 rfl ?_
      obtain ⟨c, τ, hR, hF, hK⟩ := id hA
      refine c_V1v (N := mX12_codes) dX12_product_61 lv_X12_193 mo_X12_codes hR.cn (Nat.le_of_ble_eq_true rfl) (Nat.le_of_ble_eq_true rfl) (by omega) (s_codes D hL hL50 hB hR hF hK (oPr (hrP (tpR N) L s)) hl60) (fun h hP => ?_)
      have hA := hP
      have hBx := (hB0.lp (q := oPr (hrP (tpR N) L s)) hqt.1 (hG _) hqt.2).1
      have hB := hBx
      refine e_aload_n dX12_product_64 rfl ?_
      refine e_bipush (nI (42)) dX12_product_65 (by decide) ?_
      obtain ⟨c, τ, hR, hF, hK⟩ := id hA
      refine c_V1i (N := mX12_takes) dX12_product_67 lv_X12_190 mo_X12_takes hR.cn (Nat.le_of_ble_eq_true rfl) (Nat.le_of_ble_eq_true rfl) (by omega) (s_takes D hL hL50 hB hR hF hK 42 (by decide)) (fun h hP => ?_)
      have hA := hP
      refine e_if_eqB 79 dX12_product_70 (by decide) (fun hcq70 => ?_) (fun hcq70 => ?_)
      · rw [tkP, if_neg hcq70] at hA
        refine e_aload_n dX12_product_79 rfl ?_
        refine e_bipush (nI (47)) dX12_product_80 (by decide) ?_
        obtain ⟨c, τ, hR, hF, hK⟩ := id hA
        refine c_V1i (N := mX12_takes) dX12_product_82 lv_X12_190 mo_X12_takes hR.cn (Nat.le_of_ble_eq_true rfl) (Nat.le_of_ble_eq_true rfl) (by omega) (s_takes D hL hL50 hB hR hF hK 47 (by decide)) (fun h hP => ?_)
        have hA := hP
        refine e_if_eqB 94 dX12_product_85 (by decide) (fun hcq85 => ?_) (fun hcq85 => ?_)
        · rw [tkP, if_neg hcq85] at hA
          refine e_aload_n dX12_product_94 rfl ?_
          refine e_bipush (nI (37)) dX12_product_95 (by decide) ?_
          obtain ⟨c, τ, hR, hF, hK⟩ := id hA
          refine c_V1i (N := mX12_takes) dX12_product_97 lv_X12_190 mo_X12_takes hR.cn (Nat.le_of_ble_eq_true rfl) (Nat.le_of_ble_eq_true rfl) (by omega) (s_takes D hL hL50 hB hR hF hK 37 (by decide)) (fun h hP => ?_)
          have hA := hP
          refine e_if_eqB 109 dX12_product_100 (by decide) (fun hcq100 => ?_) (fun hcq100 => ?_)
          · rw [tkP, if_neg hcq100] at hA
            refine e_iconst (nI (0)) dX12_product_109 (by decide) ?_
            refine e_istore_n dX12_product_110 (by decide) ?_
            refine e_goto 51 dX12_product_111 (by decide) ?_
            have ez9 : oPr (hrP (tpR N) L (cdP (oPr (hrP (tpR N) L s)) (f (adP (s))))) = 0 := (by unfold oPr; rw [if_neg hcq70, if_neg hcq85, if_neg hcq100])
            have ih9 := ih h0 h (cdP (oPr (hrP (tpR N) L s)) (f (adP (s)))) (by rw [cdP_1]; rw [cdP_1] at hm2; omega) hBx (by rw [ez9]; first | exact hA | (rw [if_pos rfl]; exact hA) | (rw [if_neg (by decide)]; exact hA)) (fun h9 z9 => hp h9 (by rw [lpP, if_neg (show ¬ oPr (hrP (tpR N) L s) = 0 by omega)]; exact z9))
            rw [ez9] at ih9
            exact ih9
          · rw [tkP, if_pos hcq100] at hA
            have hqt := hrP_t (tp := tpR N) (L := L) (s := cdP (oPr (hrP (tpR N) L s)) (f (adP (s)))) (by rw [hcq100]; decide)
            have hB0 := hB
            have hB := hB.adv hqt.2
            refine e_sipush (nI (20009)) dX12_product_103 (by decide) ?_
            refine e_goto 110 dX12_product_106 (by decide) ?_
            refine e_istore_n dX12_product_110 (by decide) ?_
            refine e_goto 51 dX12_product_111 (by decide) ?_
            have ez9 : oPr (hrP (tpR N) L (cdP (oPr (hrP (tpR N) L s)) (f (adP (s))))) = 20009 := (by unfold oPr; rw [if_neg hcq70, if_neg hcq85, if_pos hcq100])
            have ih9 := ih h0 h (cdP (oPr (hrP (tpR N) L s)) (f (adP (s)))) (by rw [cdP_1]; rw [cdP_1] at hm2; omega) hBx (by rw [ez9]; first | exact hA | (rw [if_pos rfl]; exact hA) | (rw [if_neg (by decide)]; exact hA)) (fun h9 z9 => hp h9 (by rw [lpP, if_neg (show ¬ oPr (hrP (tpR N) L s) = 0 by omega)]; exact z9))
            rw [ez9] at ih9
            exact ih9
        · rw [tkP, if_pos hcq85] at hA
          have hqt := hrP_t (tp := tpR N) (L := L) (s := cdP (oPr (hrP (tpR N) L s)) (f (adP (s)))) (by rw [hcq85]; decide)
          have hB0 := hB
          have hB := hB.adv hqt.2
          refine e_sipush (nI (20008)) dX12_product_88 (by decide) ?_
          refine e_goto 110 dX12_product_91 (by decide) ?_
          refine e_istore_n dX12_product_110 (by decide) ?_
          refine e_goto 51 dX12_product_111 (by decide) ?_
          have ez9 : oPr (hrP (tpR N) L (cdP (oPr (hrP (tpR N) L s)) (f (adP (s))))) = 20008 := (by unfold oPr; rw [if_neg hcq70, if_pos hcq85])
          have ih9 := ih h0 h (cdP (oPr (hrP (tpR N) L s)) (f (adP (s)))) (by rw [cdP_1]; rw [cdP_1] at hm2; omega) hBx (by rw [ez9]; first | exact hA | (rw [if_pos rfl]; exact hA) | (rw [if_neg (by decide)]; exact hA)) (fun h9 z9 => hp h9 (by rw [lpP, if_neg (show ¬ oPr (hrP (tpR N) L s) = 0 by omega)]; exact z9))
          rw [ez9] at ih9
          exact ih9
      · rw [tkP, if_pos hcq70] at hA
        have hqt := hrP_t (tp := tpR N) (L := L) (s := cdP (oPr (hrP (tpR N) L s)) (f (adP (s)))) (by rw [hcq70]; decide)
        have hB0 := hB
        have hB := hB.adv hqt.2
        refine e_sipush (nI (20007)) dX12_product_73 (by decide) ?_
        refine e_goto 110 dX12_product_76 (by decide) ?_
        refine e_istore_n dX12_product_110 (by decide) ?_
        refine e_goto 51 dX12_product_111 (by decide) ?_
        have ez9 : oPr (hrP (tpR N) L (cdP (oPr (hrP (tpR N) L s)) (f (adP (s))))) = 20007 := (by unfold oPr; rw [if_pos hcq70])
        have ih9 := ih h0 h (cdP (oPr (hrP (tpR N) L s)) (f (adP (s)))) (by rw [cdP_1]; rw [cdP_1] at hm2; omega) hBx (by rw [ez9]; first | exact hA | (rw [if_pos rfl]; exact hA) | (rw [if_neg (by decide)]; exact hA)) (fun h9 z9 => hp h9 (by rw [lpP, if_neg (show ¬ oPr (hrP (tpR N) L s) = 0 by omega)]; exact z9))
        rw [ez9] at ih9
        exact ih9
set_option maxRecDepth 20000 in
theorem s_product (D : En) {N : Nat → Int32} {σ0 : Nat → Nat → Int32} {τ0 : Nat → Int32} {u op L dq : Nat} (hL : N 3 = nI L) (hL50 : L ≤ 50) {f : PT → PT} (hG : ∀ s, GR L u s (f s)) (hf : RD D dq mX12_one N σ0 τ0 u op L f) (hdq : 2 ≤ dq) : RD D (dq + 1) mX12_product N σ0 τ0 u op L (lvP (tpR N) L oPr f 50) := by
  intro h0 h s hB hA post hp
  show Ev D (dq + 1) mX12_product 0 [some (.ref (78)), none] [] h 0 0 post
  refine e_aload_n dX12_product_0 rfl ?_
  refine c_V0v (N := mX12_one) dX12_product_1 lv_X12_206 mo_X12_one hA.cn (Nat.le_of_ble_eq_true rfl) (Nat.le_of_ble_eq_true rfl) (by omega) (hf _ _ _ hB hA) (fun h hP => ?_)
  have hA := hP
  have hB := hB.gr (hG _)
  have hBx := hB
  refine e_aload_n dX12_product_4 rfl ?_
  refine e_bipush (nI (42)) dX12_product_5 (by decide) ?_
  obtain ⟨c, τ, hR, hF, hK⟩ := id hA
  refine c_V1i (N := mX12_takes) dX12_product_7 lv_X12_190 mo_X12_takes hR.cn (Nat.le_of_ble_eq_true rfl) (Nat.le_of_ble_eq_true rfl) (by omega) (s_takes D hL hL50 hB hR hF hK 42 (by decide)) (fun h hP => ?_)
  have hA := hP
  refine e_if_eqB 19 dX12_product_10 (by decide) (fun hcq10 => ?_) (fun hcq10 => ?_)
  · rw [tkP, if_neg hcq10] at hA
    refine e_aload_n dX12_product_19 rfl ?_
    refine e_bipush (nI (47)) dX12_product_20 (by decide) ?_
    obtain ⟨c, τ, hR, hF, hK⟩ := id hA
    refine c_V1i (N := mX12_takes) dX12_product_22 lv_X12_190 mo_X12_takes hR.cn (Nat.le_of_ble_eq_true rfl) (Nat.le_of_ble_eq_true rfl) (by omega) (s_takes D hL hL50 hB hR hF hK 47 (by decide)) (fun h hP => ?_)
    have hA := hP
    refine e_if_eqB 34 dX12_product_25 (by decide) (fun hcq25 => ?_) (fun hcq25 => ?_)
    · rw [tkP, if_neg hcq25] at hA
      refine e_aload_n dX12_product_34 rfl ?_
      refine e_bipush (nI (37)) dX12_product_35 (by decide) ?_
      obtain ⟨c, τ, hR, hF, hK⟩ := id hA
      refine c_V1i (N := mX12_takes) dX12_product_37 lv_X12_190 mo_X12_takes hR.cn (Nat.le_of_ble_eq_true rfl) (Nat.le_of_ble_eq_true rfl) (by omega) (s_takes D hL hL50 hB hR hF hK 37 (by decide)) (fun h hP => ?_)
      have hA := hP
      refine e_if_eqB 49 dX12_product_40 (by decide) (fun hcq40 => ?_) (fun hcq40 => ?_)
      · rw [tkP, if_neg hcq40] at hA
        refine e_iconst (nI (0)) dX12_product_49 (by decide) ?_
        refine e_istore_n dX12_product_50 (by decide) ?_
        have ez9 : oPr (hrP (tpR N) L (f (s))) = 0 := (by unfold oPr; rw [if_neg hcq10, if_neg hcq25, if_neg hcq40])
        have ih9 := l_product D hL hL50 hG hf hdq 50 h0 h (f (s)) (by omega) hBx (by rw [ez9]; first | exact hA | (rw [if_pos rfl]; exact hA) | (rw [if_neg (by decide)]; exact hA)) (fun h9 z9 => hp h9 z9)
        rw [ez9] at ih9
        exact ih9
      · rw [tkP, if_pos hcq40] at hA
        have hqt := hrP_t (tp := tpR N) (L := L) (s := f (s)) (by rw [hcq40]; decide)
        have hB0 := hB
        have hB := hB.adv hqt.2
        refine e_sipush (nI (20009)) dX12_product_43 (by decide) ?_
        refine e_goto 50 dX12_product_46 (by decide) ?_
        refine e_istore_n dX12_product_50 (by decide) ?_
        have ez9 : oPr (hrP (tpR N) L (f (s))) = 20009 := (by unfold oPr; rw [if_neg hcq10, if_neg hcq25, if_pos hcq40])
        have ih9 := l_product D hL hL50 hG hf hdq 50 h0 h (f (s)) (by omega) hBx (by rw [ez9]; first | exact hA | (rw [if_pos rfl]; exact hA) | (rw [if_neg (by decide)]; exact hA)) (fun h9 z9 => hp h9 z9)
        rw [ez9] at ih9
        exact ih9
    · rw [tkP, if_pos hcq25] at hA
      have hqt := hrP_t (tp := tpR N) (L := L) (s := f (s)) (by rw [hcq25]; decide)
      have hB0 := hB
      have hB := hB.adv hqt.2
      refine e_sipush (nI (20008)) dX12_product_28 (by decide) ?_
      refine e_goto 50 dX12_product_31 (by decide) ?_
      refine e_istore_n dX12_product_50 (by decide) ?_
      have ez9 : oPr (hrP (tpR N) L (f (s))) = 20008 := (by unfold oPr; rw [if_neg hcq10, if_pos hcq25])
      have ih9 := l_product D hL hL50 hG hf hdq 50 h0 h (f (s)) (by omega) hBx (by rw [ez9]; first | exact hA | (rw [if_pos rfl]; exact hA) | (rw [if_neg (by decide)]; exact hA)) (fun h9 z9 => hp h9 z9)
      rw [ez9] at ih9
      exact ih9
  · rw [tkP, if_pos hcq10] at hA
    have hqt := hrP_t (tp := tpR N) (L := L) (s := f (s)) (by rw [hcq10]; decide)
    have hB0 := hB
    have hB := hB.adv hqt.2
    refine e_sipush (nI (20007)) dX12_product_13 (by decide) ?_
    refine e_goto 50 dX12_product_16 (by decide) ?_
    refine e_istore_n dX12_product_50 (by decide) ?_
    have ez9 : oPr (hrP (tpR N) L (f (s))) = 20007 := (by unfold oPr; rw [if_pos hcq10])
    have ih9 := l_product D hL hL50 hG hf hdq 50 h0 h (f (s)) (by omega) hBx (by rw [ez9]; first | exact hA | (rw [if_pos rfl]; exact hA) | (rw [if_neg (by decide)]; exact hA)) (fun h9 z9 => hp h9 z9)
    rw [ez9] at ih9
    exact ih9
set_option maxRecDepth 20000 in
theorem l_sum (D : En) {N : Nat → Int32} {σ0 : Nat → Nat → Int32} {τ0 : Nat → Int32} {u op L dq : Nat} (hL : N 3 = nI L) (hL50 : L ≤ 50) {f : PT → PT} (hG : ∀ s, GR L u s (f s)) (hf : RD D dq mX12_product N σ0 τ0 u op L f) (hdq : 2 ≤ dq) : ∀ (n : Nat) (h0 h : AH) (s : PT), L ≤ s.1 + n → PB L s → PA h0 h N σ0 τ0 u op (if oSu (hrP (tpR N) L s) = 0 then s else adP s) → ∀ {post : Option Value → AH → Prop}, (∀ h', PA h0 h' N σ0 τ0 u op (lpP (tpR N) L oSu f n s) → post none h') → Ev D (dq + 1) mX12_sum 36 [some (.ref 78), some (.int (nI (oSu (hrP (tpR N) L s))))] [] h 0 0 post := by
  intro n
  induction n with
  | zero =>
    intro h0 h s hm hB hA post hp
    have hz9 : oSu (hrP (tpR N) L s) = 0 := by
      have e9 : hrP (tpR N) L s = -1 := if_neg (fun zz => absurd zz.2 (by omega))
      rw [e9]; decide
    refine e_iload_n dX12_sum_36 rfl ?_
    refine e_if_leN 84 dX12_sum_37 (by decide) (by omega) (fun hcq37 => ?_) (fun hcq37 => absurd hcq37 (by omega))
    exact e_vret dX12_sum_84 rfl (hp _ (by rw [if_pos hz9] at hA; exact hA))
  | succ n ih =>
    intro h0 h s hm hB hA post hp
    have hl20 := ops_su (hrP (tpR N) L s)
    refine e_iload_n dX12_sum_36 rfl ?_
    refine e_if_leN 84 dX12_sum_37 (by decide) (by omega) (fun hcq37 => ?_) (fun hcq37 => ?_)
    · exact e_vret dX12_sum_84 rfl (hp _ (by rw [if_pos hcq37] at hA; rw [lpP, if_pos hcq37]; exact hA))
    · rw [if_neg (show ¬ oSu (hrP (tpR N) L s) = 0 by omega)] at hA
      have hqt := hrP_t (tp := tpR N) (L := L) (s := s) (fun e9 => by rw [e9] at hcq37; exact absurd hcq37 (by decide))
      have hB0 := hB
      have hB := hB.adv hqt.2
      refine e_aload_n dX12_sum_40 rfl ?_
      refine c_V0v (N := mX12_product) dX12_sum_41 lv_X12_203 mo_X12_product hA.cn (Nat.le_of_ble_eq_true rfl) (Nat.le_of_ble_eq_true rfl) (by omega) (hf _ _ _ hB hA) (fun h hP => ?_)
      have hA := hP
      obtain ⟨hB2, hm2, hl60⟩ := hB0.lp (q := 0) hqt.1 (hG (adP (s))) hqt.2
      have hl60 : (f (adP (s))).2.1 = false → (f (adP (s))).2.2.length < 60 := fun zz => by rcases hl60 zz with e9 | e9 <;> omega
      have hB := hB.gr (hG (adP (s)))
      refine e_aload_n dX12_sum_44 rfl ?_
      refine e_iload_n dX12_sum_45 rfl ?_
      obtain ⟨c, τ, hR, hF, hK⟩ := id hA
      refine c_V1v (N := mX12_codes) dX12_sum_46 lv_X12_193 mo_X12_codes hR.cn (Nat.le_of_ble_eq_true rfl) (Nat.le_of_ble_eq_true rfl) (by omega) (s_codes D hL hL50 hB hR hF hK (oSu (hrP (tpR N) L s)) hl60) (fun h hP => ?_)
      have hA := hP
      have hBx := (hB0.lp (q := oSu (hrP (tpR N) L s)) hqt.1 (hG _) hqt.2).1
      have hB := hBx
      refine e_aload_n dX12_sum_49 rfl ?_
      refine e_bipush (nI (43)) dX12_sum_50 (by decide) ?_
      obtain ⟨c, τ, hR, hF, hK⟩ := id hA
      refine c_V1i (N := mX12_takes) dX12_sum_52 lv_X12_190 mo_X12_takes hR.cn (Nat.le_of_ble_eq_true rfl) (Nat.le_of_ble_eq_true rfl) (by omega) (s_takes D hL hL50 hB hR hF hK 43 (by decide)) (fun h hP => ?_)
      have hA := hP
      refine e_if_eqB 64 dX12_sum_55 (by decide) (fun hcq55 => ?_) (fun hcq55 => ?_)
      · rw [tkP, if_neg hcq55] at hA
        refine e_aload_n dX12_sum_64 rfl ?_
        refine e_bipush (nI (45)) dX12_sum_65 (by decide) ?_
        obtain ⟨c, τ, hR, hF, hK⟩ := id hA
        refine c_V1i (N := mX12_takes) dX12_sum_67 lv_X12_190 mo_X12_takes hR.cn (Nat.le_of_ble_eq_true rfl) (Nat.le_of_ble_eq_true rfl) (by omega) (s_takes D hL hL50 hB hR hF hK 45 (by decide)) (fun h hP => ?_)
        have hA := hP
        refine e_if_eqB 79 dX12_sum_70 (by decide) (fun hcq70 => ?_) (fun hcq70 => ?_)
        · rw [tkP, if_neg hcq70] at hA
          refine e_iconst (nI (0)) dX12_sum_79 (by decide) ?_
          refine e_istore_n dX12_sum_80 (by decide) ?_
          refine e_goto 36 dX12_sum_81 (by decide) ?_
          have ez9 : oSu (hrP (tpR N) L (cdP (oSu (hrP (tpR N) L s)) (f (adP (s))))) = 0 := (by unfold oSu; rw [if_neg hcq55, if_neg hcq70])
          have ih9 := ih h0 h (cdP (oSu (hrP (tpR N) L s)) (f (adP (s)))) (by rw [cdP_1]; rw [cdP_1] at hm2; omega) hBx (by rw [ez9]; first | exact hA | (rw [if_pos rfl]; exact hA) | (rw [if_neg (by decide)]; exact hA)) (fun h9 z9 => hp h9 (by rw [lpP, if_neg (show ¬ oSu (hrP (tpR N) L s) = 0 by omega)]; exact z9))
          rw [ez9] at ih9
          exact ih9
        · rw [tkP, if_pos hcq70] at hA
          have hqt := hrP_t (tp := tpR N) (L := L) (s := cdP (oSu (hrP (tpR N) L s)) (f (adP (s)))) (by rw [hcq70]; decide)
          have hB0 := hB
          have hB := hB.adv hqt.2
          refine e_sipush (nI (20006)) dX12_sum_73 (by decide) ?_
          refine e_goto 80 dX12_sum_76 (by decide) ?_
          refine e_istore_n dX12_sum_80 (by decide) ?_
          refine e_goto 36 dX12_sum_81 (by decide) ?_
          have ez9 : oSu (hrP (tpR N) L (cdP (oSu (hrP (tpR N) L s)) (f (adP (s))))) = 20006 := (by unfold oSu; rw [if_neg hcq55, if_pos hcq70])
          have ih9 := ih h0 h (cdP (oSu (hrP (tpR N) L s)) (f (adP (s)))) (by rw [cdP_1]; rw [cdP_1] at hm2; omega) hBx (by rw [ez9]; first | exact hA | (rw [if_pos rfl]; exact hA) | (rw [if_neg (by decide)]; exact hA)) (fun h9 z9 => hp h9 (by rw [lpP, if_neg (show ¬ oSu (hrP (tpR N) L s) = 0 by omega)]; exact z9))
          rw [ez9] at ih9
          exact ih9
      · rw [tkP, if_pos hcq55] at hA
        have hqt := hrP_t (tp := tpR N) (L := L) (s := cdP (oSu (hrP (tpR N) L s)) (f (adP (s)))) (by rw [hcq55]; decide)
        have hB0 := hB
        have hB := hB.adv hqt.2
        refine e_sipush (nI (20005)) dX12_sum_58 (by decide) ?_
        refine e_goto 80 dX12_sum_61 (by decide) ?_
        refine e_istore_n dX12_sum_80 (by decide) ?_
        refine e_goto 36 dX12_sum_81 (by decide) ?_
        have ez9 : oSu (hrP (tpR N) L (cdP (oSu (hrP (tpR N) L s)) (f (adP (s))))) = 20005 := (by unfold oSu; rw [if_pos hcq55])
        have ih9 := ih h0 h (cdP (oSu (hrP (tpR N) L s)) (f (adP (s)))) (by rw [cdP_1]; rw [cdP_1] at hm2; omega) hBx (by rw [ez9]; first | exact hA | (rw [if_pos rfl]; exact hA) | (rw [if_neg (by decide)]; exact hA)) (fun h9 z9 => hp h9 (by rw [lpP, if_neg (show ¬ oSu (hrP (tpR N) L s) = 0 by omega)]; exact z9))
        rw [ez9] at ih9
        exact ih9
set_option maxRecDepth 20000 in
theorem s_sum (D : En) {N : Nat → Int32} {σ0 : Nat → Nat → Int32} {τ0 : Nat → Int32} {u op L dq : Nat} (hL : N 3 = nI L) (hL50 : L ≤ 50) {f : PT → PT} (hG : ∀ s, GR L u s (f s)) (hf : RD D dq mX12_product N σ0 τ0 u op L f) (hdq : 2 ≤ dq) : RD D (dq + 1) mX12_sum N σ0 τ0 u op L (lvP (tpR N) L oSu f 50) := by
  intro h0 h s hB hA post hp
  show Ev D (dq + 1) mX12_sum 0 [some (.ref (78)), none] [] h 0 0 post
  refine e_aload_n dX12_sum_0 rfl ?_
  refine c_V0v (N := mX12_product) dX12_sum_1 lv_X12_203 mo_X12_product hA.cn (Nat.le_of_ble_eq_true rfl) (Nat.le_of_ble_eq_true rfl) (by omega) (hf _ _ _ hB hA) (fun h hP => ?_)
  have hA := hP
  have hB := hB.gr (hG _)
  have hBx := hB
  refine e_aload_n dX12_sum_4 rfl ?_
  refine e_bipush (nI (43)) dX12_sum_5 (by decide) ?_
  obtain ⟨c, τ, hR, hF, hK⟩ := id hA
  refine c_V1i (N := mX12_takes) dX12_sum_7 lv_X12_190 mo_X12_takes hR.cn (Nat.le_of_ble_eq_true rfl) (Nat.le_of_ble_eq_true rfl) (by omega) (s_takes D hL hL50 hB hR hF hK 43 (by decide)) (fun h hP => ?_)
  have hA := hP
  refine e_if_eqB 19 dX12_sum_10 (by decide) (fun hcq10 => ?_) (fun hcq10 => ?_)
  · rw [tkP, if_neg hcq10] at hA
    refine e_aload_n dX12_sum_19 rfl ?_
    refine e_bipush (nI (45)) dX12_sum_20 (by decide) ?_
    obtain ⟨c, τ, hR, hF, hK⟩ := id hA
    refine c_V1i (N := mX12_takes) dX12_sum_22 lv_X12_190 mo_X12_takes hR.cn (Nat.le_of_ble_eq_true rfl) (Nat.le_of_ble_eq_true rfl) (by omega) (s_takes D hL hL50 hB hR hF hK 45 (by decide)) (fun h hP => ?_)
    have hA := hP
    refine e_if_eqB 34 dX12_sum_25 (by decide) (fun hcq25 => ?_) (fun hcq25 => ?_)
    · rw [tkP, if_neg hcq25] at hA
      refine e_iconst (nI (0)) dX12_sum_34 (by decide) ?_
      refine e_istore_n dX12_sum_35 (by decide) ?_
      have ez9 : oSu (hrP (tpR N) L (f (s))) = 0 := (by unfold oSu; rw [if_neg hcq10, if_neg hcq25])
      have ih9 := l_sum D hL hL50 hG hf hdq 50 h0 h (f (s)) (by omega) hBx (by rw [ez9]; first | exact hA | (rw [if_pos rfl]; exact hA) | (rw [if_neg (by decide)]; exact hA)) (fun h9 z9 => hp h9 z9)
      rw [ez9] at ih9
      exact ih9
    · rw [tkP, if_pos hcq25] at hA
      have hqt := hrP_t (tp := tpR N) (L := L) (s := f (s)) (by rw [hcq25]; decide)
      have hB0 := hB
      have hB := hB.adv hqt.2
      refine e_sipush (nI (20006)) dX12_sum_28 (by decide) ?_
      refine e_goto 35 dX12_sum_31 (by decide) ?_
      refine e_istore_n dX12_sum_35 (by decide) ?_
      have ez9 : oSu (hrP (tpR N) L (f (s))) = 20006 := (by unfold oSu; rw [if_neg hcq10, if_pos hcq25])
      have ih9 := l_sum D hL hL50 hG hf hdq 50 h0 h (f (s)) (by omega) hBx (by rw [ez9]; first | exact hA | (rw [if_pos rfl]; exact hA) | (rw [if_neg (by decide)]; exact hA)) (fun h9 z9 => hp h9 z9)
      rw [ez9] at ih9
      exact ih9
  · rw [tkP, if_pos hcq10] at hA
    have hqt := hrP_t (tp := tpR N) (L := L) (s := f (s)) (by rw [hcq10]; decide)
    have hB0 := hB
    have hB := hB.adv hqt.2
    refine e_sipush (nI (20005)) dX12_sum_13 (by decide) ?_
    refine e_goto 35 dX12_sum_16 (by decide) ?_
    refine e_istore_n dX12_sum_35 (by decide) ?_
    have ez9 : oSu (hrP (tpR N) L (f (s))) = 20005 := (by unfold oSu; rw [if_pos hcq10])
    have ih9 := l_sum D hL hL50 hG hf hdq 50 h0 h (f (s)) (by omega) hBx (by rw [ez9]; first | exact hA | (rw [if_pos rfl]; exact hA) | (rw [if_neg (by decide)]; exact hA)) (fun h9 z9 => hp h9 z9)
    rw [ez9] at ih9
    exact ih9
set_option maxRecDepth 20000 in
theorem s_compared (D : En) {N : Nat → Int32} {σ0 : Nat → Nat → Int32} {τ0 : Nat → Int32} {u op L dq : Nat} (hL : N 3 = nI L) (hL50 : L ≤ 50) {f : PT → PT} (hG : ∀ s, GR L u s (f s)) (hf : RD D dq mX12_sum N σ0 τ0 u op L f) (hdq : 2 ≤ dq) : RD D (dq + 1) mX12_compared N σ0 τ0 u op L (lvP (tpR N) L oCm f 1) := by
  intro h0 h s hB hA post hp
  show Ev D (dq + 1) mX12_compared 0 [some (.ref (78)), none] [] h 0 0 post
  refine e_aload_n dX12_compared_0 rfl ?_
  refine c_V0v (N := mX12_sum) dX12_compared_1 lv_X12_200 mo_X12_sum hA.cn (Nat.le_of_ble_eq_true rfl) (Nat.le_of_ble_eq_true rfl) (by omega) (hf _ _ _ hB hA) (fun h hP => ?_)
  have hA := hP
  have hB := hB.gr (hG _)
  refine e_aload_n dX12_compared_4 rfl ?_
  refine e_bipush (nI (60)) dX12_compared_5 (by decide) ?_
  obtain ⟨c, τ, hR, hF, hK⟩ := id hA
  refine c_V1i (N := mX12_takes) dX12_compared_7 lv_X12_190 mo_X12_takes hR.cn (Nat.le_of_ble_eq_true rfl) (Nat.le_of_ble_eq_true rfl) (by omega) (s_takes D hL hL50 hB hR hF hK 60 (by decide)) (fun h hP => ?_)
  have hA := hP
  refine e_if_eqB 19 dX12_compared_10 (by decide) (fun hcq10 => ?_) (fun hcq10 => ?_)
  · rw [tkP, if_neg hcq10] at hA
    refine e_aload_n dX12_compared_19 rfl ?_
    refine e_bipush (nI (61)) dX12_compared_20 (by decide) ?_
    obtain ⟨c, τ, hR, hF, hK⟩ := id hA
    refine c_V1i (N := mX12_takes) dX12_compared_22 lv_X12_190 mo_X12_takes hR.cn (Nat.le_of_ble_eq_true rfl) (Nat.le_of_ble_eq_true rfl) (by omega) (s_takes D hL hL50 hB hR hF hK 61 (by decide)) (fun h hP => ?_)
    have hA := hP
    refine e_if_eqB 34 dX12_compared_25 (by decide) (fun hcq25 => ?_) (fun hcq25 => ?_)
    · rw [tkP, if_neg hcq25] at hA
      refine e_aload_n dX12_compared_34 rfl ?_
      refine e_bipush (nI (62)) dX12_compared_35 (by decide) ?_
      obtain ⟨c, τ, hR, hF, hK⟩ := id hA
      refine c_V1i (N := mX12_takes) dX12_compared_37 lv_X12_190 mo_X12_takes hR.cn (Nat.le_of_ble_eq_true rfl) (Nat.le_of_ble_eq_true rfl) (by omega) (s_takes D hL hL50 hB hR hF hK 62 (by decide)) (fun h hP => ?_)
      have hA := hP
      refine e_if_eqB 49 dX12_compared_40 (by decide) (fun hcq40 => ?_) (fun hcq40 => ?_)
      · rw [tkP, if_neg hcq40] at hA
        refine e_iconst (nI (0)) dX12_compared_49 (by decide) ?_
        refine e_istore_n dX12_compared_50 (by decide) ?_
        refine e_iload_n dX12_compared_51 rfl ?_
        refine e_if_leN 64 dX12_compared_52 (by decide) (by omega) (fun hcq52 => ?_) (fun hcq52 => absurd hcq52 (by decide))
        have ez9 : oCm (hrP (tpR N) L (f s)) = 0 := (by unfold oCm; rw [if_neg hcq10, if_neg hcq25, if_neg hcq40])
        exact e_vret dX12_compared_64 rfl (hp _ (by rw [lvP, lpP, if_pos ez9]; exact hA))
      · rw [tkP, if_pos hcq40] at hA
        have hqt := hrP_t (tp := tpR N) (L := L) (s := f (s)) (by rw [hcq40]; decide)
        have hB0 := hB
        have hB := hB.adv hqt.2
        refine e_sipush (nI (20004)) dX12_compared_43 (by decide) ?_
        refine e_goto 50 dX12_compared_46 (by decide) ?_
        refine e_istore_n dX12_compared_50 (by decide) ?_
        refine e_iload_n dX12_compared_51 rfl ?_
        refine e_if_leN 64 dX12_compared_52 (by decide) (by omega) (fun hcq52 => absurd hcq52 (by decide)) (fun hcq52 => ?_)
        refine e_aload_n dX12_compared_55 rfl ?_
        refine c_V0v (N := mX12_sum) dX12_compared_56 lv_X12_200 mo_X12_sum hA.cn (Nat.le_of_ble_eq_true rfl) (Nat.le_of_ble_eq_true rfl) (by omega) (hf _ _ _ hB hA) (fun h hP => ?_)
        have hA := hP
        obtain ⟨hB2, hm2, hl60⟩ := hB0.lp (q := 0) hqt.1 (hG (adP (f (s)))) hqt.2
        have hl60 : (f (adP (f (s)))).2.1 = false → (f (adP (f (s)))).2.2.length < 60 := fun zz => by rcases hl60 zz with e9 | e9 <;> omega
        have hB := hB.gr (hG (adP (f (s))))
        refine e_aload_n dX12_compared_59 rfl ?_
        refine e_iload_n dX12_compared_60 rfl ?_
        obtain ⟨c, τ, hR, hF, hK⟩ := id hA
        refine c_V1v (N := mX12_codes) dX12_compared_61 lv_X12_193 mo_X12_codes hR.cn (Nat.le_of_ble_eq_true rfl) (Nat.le_of_ble_eq_true rfl) (by omega) (s_codes D hL hL50 hB hR hF hK (20004) hl60) (fun h hP => ?_)
        have hA := hP
        have ez9 : oCm (hrP (tpR N) L (f s)) = 20004 := (by unfold oCm; rw [if_neg hcq10, if_neg hcq25, if_pos hcq40])
        exact e_vret dX12_compared_64 rfl (hp _ (by rw [lvP, lpP, if_neg (by rw [ez9]; decide), ez9, lpP]; exact hA))
    · rw [tkP, if_pos hcq25] at hA
      have hqt := hrP_t (tp := tpR N) (L := L) (s := f (s)) (by rw [hcq25]; decide)
      have hB0 := hB
      have hB := hB.adv hqt.2
      refine e_sipush (nI (20003)) dX12_compared_28 (by decide) ?_
      refine e_goto 50 dX12_compared_31 (by decide) ?_
      refine e_istore_n dX12_compared_50 (by decide) ?_
      refine e_iload_n dX12_compared_51 rfl ?_
      refine e_if_leN 64 dX12_compared_52 (by decide) (by omega) (fun hcq52 => absurd hcq52 (by decide)) (fun hcq52 => ?_)
      refine e_aload_n dX12_compared_55 rfl ?_
      refine c_V0v (N := mX12_sum) dX12_compared_56 lv_X12_200 mo_X12_sum hA.cn (Nat.le_of_ble_eq_true rfl) (Nat.le_of_ble_eq_true rfl) (by omega) (hf _ _ _ hB hA) (fun h hP => ?_)
      have hA := hP
      obtain ⟨hB2, hm2, hl60⟩ := hB0.lp (q := 0) hqt.1 (hG (adP (f (s)))) hqt.2
      have hl60 : (f (adP (f (s)))).2.1 = false → (f (adP (f (s)))).2.2.length < 60 := fun zz => by rcases hl60 zz with e9 | e9 <;> omega
      have hB := hB.gr (hG (adP (f (s))))
      refine e_aload_n dX12_compared_59 rfl ?_
      refine e_iload_n dX12_compared_60 rfl ?_
      obtain ⟨c, τ, hR, hF, hK⟩ := id hA
      refine c_V1v (N := mX12_codes) dX12_compared_61 lv_X12_193 mo_X12_codes hR.cn (Nat.le_of_ble_eq_true rfl) (Nat.le_of_ble_eq_true rfl) (by omega) (s_codes D hL hL50 hB hR hF hK (20003) hl60) (fun h hP => ?_)
      have hA := hP
      have ez9 : oCm (hrP (tpR N) L (f s)) = 20003 := (by unfold oCm; rw [if_neg hcq10, if_pos hcq25])
      exact e_vret dX12_compared_64 rfl (hp _ (by rw [lvP, lpP, if_neg (by rw [ez9]; decide), ez9, lpP]; exact hA))
  · rw [tkP, if_pos hcq10] at hA
    have hqt := hrP_t (tp := tpR N) (L := L) (s := f (s)) (by rw [hcq10]; decide)
    have hB0 := hB
    have hB := hB.adv hqt.2
    refine e_sipush (nI (20002)) dX12_compared_13 (by decide) ?_
    refine e_goto 50 dX12_compared_16 (by decide) ?_
    refine e_istore_n dX12_compared_50 (by decide) ?_
    refine e_iload_n dX12_compared_51 rfl ?_
    refine e_if_leN 64 dX12_compared_52 (by decide) (by omega) (fun hcq52 => absurd hcq52 (by decide)) (fun hcq52 => ?_)
    refine e_aload_n dX12_compared_55 rfl ?_
    refine c_V0v (N := mX12_sum) dX12_compared_56 lv_X12_200 mo_X12_sum hA.cn (Nat.le_of_ble_eq_true rfl) (Nat.le_of_ble_eq_true rfl) (by omega) (hf _ _ _ hB hA) (fun h hP => ?_)
    have hA := hP
    obtain ⟨hB2, hm2, hl60⟩ := hB0.lp (q := 0) hqt.1 (hG (adP (f (s)))) hqt.2
    have hl60 : (f (adP (f (s)))).2.1 = false → (f (adP (f (s)))).2.2.length < 60 := fun zz => by rcases hl60 zz with e9 | e9 <;> omega
    have hB := hB.gr (hG (adP (f (s))))
    refine e_aload_n dX12_compared_59 rfl ?_
    refine e_iload_n dX12_compared_60 rfl ?_
    obtain ⟨c, τ, hR, hF, hK⟩ := id hA
    refine c_V1v (N := mX12_codes) dX12_compared_61 lv_X12_193 mo_X12_codes hR.cn (Nat.le_of_ble_eq_true rfl) (Nat.le_of_ble_eq_true rfl) (by omega) (s_codes D hL hL50 hB hR hF hK (20002) hl60) (fun h hP => ?_)
    have hA := hP
    have ez9 : oCm (hrP (tpR N) L (f s)) = 20002 := (by unfold oCm; rw [if_pos hcq10])
    exact e_vret dX12_compared_64 rfl (hp _ (by rw [lvP, lpP, if_neg (by rw [ez9]; decide), ez9, lpP]; exact hA))
set_option maxRecDepth 20000 in
theorem l_both (D : En) {N : Nat → Int32} {σ0 : Nat → Nat → Int32} {τ0 : Nat → Int32} {u op L dq : Nat} (hL : N 3 = nI L) (hL50 : L ≤ 50) {f : PT → PT} (hG : ∀ s, GR L u s (f s)) (hf : RD D dq mX12_compared N σ0 τ0 u op L f) (hdq : 2 ≤ dq) : ∀ (n : Nat) (h0 h : AH) (s : PT), L ≤ s.1 + n → PB L s → PA h0 h N σ0 τ0 u op s → ∀ {post : Option Value → AH → Prop}, (∀ h', PA h0 h' N σ0 τ0 u op (lpP (tpR N) L oAn f n s) → post none h') → Ev D (dq + 1) mX12_both 4 [some (.ref 78)] [] h 0 0 post := by
  intro n
  induction n with
  | zero =>
    intro h0 h s hm hB hA post hp
    refine e_aload_n dX12_both_4 rfl ?_
    refine e_bipush (nI (38)) dX12_both_5 (by decide) ?_
    obtain ⟨c, τ, hR, hF, hK⟩ := id hA
    refine c_V1i (N := mX12_takes) dX12_both_7 lv_X12_190 mo_X12_takes hR.cn (Nat.le_of_ble_eq_true rfl) (Nat.le_of_ble_eq_true rfl) (by omega) (s_takes D hL hL50 hB hR hF hK 38 (by decide)) (fun h hP => ?_)
    have hA := hP
    refine e_if_eqB 27 dX12_both_10 (by decide) (fun hcq10 => ?_) (fun hcq10 => absurd (hrP_t (tp := tpR N) (L := L) (s := s) (by rw [hcq10]; decide)).2 (by omega))
    rw [tkP, if_neg hcq10] at hA
    exact e_vret dX12_both_27 rfl (hp _ hA)
  | succ n ih =>
    intro h0 h s hm hB hA post hp
    refine e_aload_n dX12_both_4 rfl ?_
    refine e_bipush (nI (38)) dX12_both_5 (by decide) ?_
    obtain ⟨c, τ, hR, hF, hK⟩ := id hA
    refine c_V1i (N := mX12_takes) dX12_both_7 lv_X12_190 mo_X12_takes hR.cn (Nat.le_of_ble_eq_true rfl) (Nat.le_of_ble_eq_true rfl) (by omega) (s_takes D hL hL50 hB hR hF hK 38 (by decide)) (fun h hP => ?_)
    have hA := hP
    refine e_if_eqB 27 dX12_both_10 (by decide) (fun hcq10 => ?_) (fun hcq10 => ?_)
    · rw [tkP, if_neg hcq10] at hA
      exact e_vret dX12_both_27 rfl (hp _ (by rw [lpP, if_pos (if_neg hcq10)]; exact hA))
    · rw [tkP, if_pos hcq10] at hA
      have hqt := hrP_t (tp := tpR N) (L := L) (s := s) (by rw [hcq10]; decide)
      have hB0 := hB
      have hB := hB.adv hqt.2
      refine e_aload_n dX12_both_13 rfl ?_
      refine c_V0v (N := mX12_compared) dX12_both_14 lv_X12_197 mo_X12_compared hA.cn (Nat.le_of_ble_eq_true rfl) (Nat.le_of_ble_eq_true rfl) (by omega) (hf _ _ _ hB hA) (fun h hP => ?_)
      have hA := hP
      obtain ⟨hB2, hm2, hl60⟩ := hB0.lp (q := 0) hqt.1 (hG (adP (s))) hqt.2
      have hl60 : (f (adP (s))).2.1 = false → (f (adP (s))).2.2.length < 60 := fun zz => by rcases hl60 zz with e9 | e9 <;> omega
      have hB := hB.gr (hG (adP (s)))
      refine e_aload_n dX12_both_17 rfl ?_
      refine e_sipush (nI (20001)) dX12_both_18 (by decide) ?_
      obtain ⟨c, τ, hR, hF, hK⟩ := id hA
      refine c_V1v (N := mX12_codes) dX12_both_21 lv_X12_193 mo_X12_codes hR.cn (Nat.le_of_ble_eq_true rfl) (Nat.le_of_ble_eq_true rfl) (by omega) (s_codes D hL hL50 hB hR hF hK (20001) hl60) (fun h hP => ?_)
      have hA := hP
      refine e_goto 4 dX12_both_24 (by decide) ?_
      exact ih h0 h _ (by rw [cdP_1]; rw [cdP_1] at hm2; omega) (hB0.lp (q := 20001) hqt.1 (hG _) hqt.2).1 hA (fun h9 z9 => hp h9 (by rw [lpP]; rw [show oAn (hrP (tpR N) L s) = 20001 from if_pos hcq10, if_neg (by decide)]; exact z9))
set_option maxRecDepth 20000 in
theorem s_both (D : En) {N : Nat → Int32} {σ0 : Nat → Nat → Int32} {τ0 : Nat → Int32} {u op L dq : Nat} (hL : N 3 = nI L) (hL50 : L ≤ 50) {f : PT → PT} (hG : ∀ s, GR L u s (f s)) (hf : RD D dq mX12_compared N σ0 τ0 u op L f) (hdq : 2 ≤ dq) : RD D (dq + 1) mX12_both N σ0 τ0 u op L (lvP (tpR N) L oAn f 50) := by
  intro h0 h s hB hA post hp
  show Ev D (dq + 1) mX12_both 0 [some (.ref (78))] [] h 0 0 post
  refine e_aload_n dX12_both_0 rfl ?_
  refine c_V0v (N := mX12_compared) dX12_both_1 lv_X12_197 mo_X12_compared hA.cn (Nat.le_of_ble_eq_true rfl) (Nat.le_of_ble_eq_true rfl) (by omega) (hf _ _ _ hB hA) (fun h hP => ?_)
  have hA := hP
  have hB := hB.gr (hG _)
  exact l_both D hL hL50 hG hf hdq 50 h0 h _ (by omega) hB hA (fun h9 z9 => hp h9 z9)
set_option maxRecDepth 20000 in
theorem l_either (D : En) {N : Nat → Int32} {σ0 : Nat → Nat → Int32} {τ0 : Nat → Int32} {u op L dq : Nat} (hL : N 3 = nI L) (hL50 : L ≤ 50) {f : PT → PT} (hG : ∀ s, GR L u s (f s)) (hf : RD D dq mX12_both N σ0 τ0 u op L f) (hdq : 2 ≤ dq) : ∀ (n : Nat) (h0 h : AH) (s : PT), L ≤ s.1 + n → PB L s → PA h0 h N σ0 τ0 u op s → ∀ {post : Option Value → AH → Prop}, (∀ h', PA h0 h' N σ0 τ0 u op (lpP (tpR N) L oOr f n s) → post none h') → Ev D (dq + 1) mX12_either 4 [some (.ref 78)] [] h 0 0 post := by
  intro n
  induction n with
  | zero =>
    intro h0 h s hm hB hA post hp
    refine e_aload_n dX12_either_4 rfl ?_
    refine e_bipush (nI (124)) dX12_either_5 (by decide) ?_
    obtain ⟨c, τ, hR, hF, hK⟩ := id hA
    refine c_V1i (N := mX12_takes) dX12_either_7 lv_X12_190 mo_X12_takes hR.cn (Nat.le_of_ble_eq_true rfl) (Nat.le_of_ble_eq_true rfl) (by omega) (s_takes D hL hL50 hB hR hF hK 124 (by decide)) (fun h hP => ?_)
    have hA := hP
    refine e_if_eqB 27 dX12_either_10 (by decide) (fun hcq10 => ?_) (fun hcq10 => absurd (hrP_t (tp := tpR N) (L := L) (s := s) (by rw [hcq10]; decide)).2 (by omega))
    rw [tkP, if_neg hcq10] at hA
    exact e_vret dX12_either_27 rfl (hp _ hA)
  | succ n ih =>
    intro h0 h s hm hB hA post hp
    refine e_aload_n dX12_either_4 rfl ?_
    refine e_bipush (nI (124)) dX12_either_5 (by decide) ?_
    obtain ⟨c, τ, hR, hF, hK⟩ := id hA
    refine c_V1i (N := mX12_takes) dX12_either_7 lv_X12_190 mo_X12_takes hR.cn (Nat.le_of_ble_eq_true rfl) (Nat.le_of_ble_eq_true rfl) (by omega) (s_takes D hL hL50 hB hR hF hK 124 (by decide)) (fun h hP => ?_)
    have hA := hP
    refine e_if_eqB 27 dX12_either_10 (by decide) (fun hcq10 => ?_) (fun hcq10 => ?_)
    · rw [tkP, if_neg hcq10] at hA
      exact e_vret dX12_either_27 rfl (hp _ (by rw [lpP, if_pos (if_neg hcq10)]; exact hA))
    · rw [tkP, if_pos hcq10] at hA
      have hqt := hrP_t (tp := tpR N) (L := L) (s := s) (by rw [hcq10]; decide)
      have hB0 := hB
      have hB := hB.adv hqt.2
      refine e_aload_n dX12_either_13 rfl ?_
      refine c_V0v (N := mX12_both) dX12_either_14 lv_X12_187 mo_X12_both hA.cn (Nat.le_of_ble_eq_true rfl) (Nat.le_of_ble_eq_true rfl) (by omega) (hf _ _ _ hB hA) (fun h hP => ?_)
      have hA := hP
      obtain ⟨hB2, hm2, hl60⟩ := hB0.lp (q := 0) hqt.1 (hG (adP (s))) hqt.2
      have hl60 : (f (adP (s))).2.1 = false → (f (adP (s))).2.2.length < 60 := fun zz => by rcases hl60 zz with e9 | e9 <;> omega
      have hB := hB.gr (hG (adP (s)))
      refine e_aload_n dX12_either_17 rfl ?_
      refine e_sipush (nI (20000)) dX12_either_18 (by decide) ?_
      obtain ⟨c, τ, hR, hF, hK⟩ := id hA
      refine c_V1v (N := mX12_codes) dX12_either_21 lv_X12_193 mo_X12_codes hR.cn (Nat.le_of_ble_eq_true rfl) (Nat.le_of_ble_eq_true rfl) (by omega) (s_codes D hL hL50 hB hR hF hK (20000) hl60) (fun h hP => ?_)
      have hA := hP
      refine e_goto 4 dX12_either_24 (by decide) ?_
      exact ih h0 h _ (by rw [cdP_1]; rw [cdP_1] at hm2; omega) (hB0.lp (q := 20000) hqt.1 (hG _) hqt.2).1 hA (fun h9 z9 => hp h9 (by rw [lpP]; rw [show oOr (hrP (tpR N) L s) = 20000 from if_pos hcq10, if_neg (by decide)]; exact z9))
set_option maxRecDepth 20000 in
theorem s_either (D : En) {N : Nat → Int32} {σ0 : Nat → Nat → Int32} {τ0 : Nat → Int32} {u op L dq : Nat} (hL : N 3 = nI L) (hL50 : L ≤ 50) {f : PT → PT} (hG : ∀ s, GR L u s (f s)) (hf : RD D dq mX12_both N σ0 τ0 u op L f) (hdq : 2 ≤ dq) : RD D (dq + 1) mX12_either N σ0 τ0 u op L (lvP (tpR N) L oOr f 50) := by
  intro h0 h s hB hA post hp
  show Ev D (dq + 1) mX12_either 0 [some (.ref (78))] [] h 0 0 post
  refine e_aload_n dX12_either_0 rfl ?_
  refine c_V0v (N := mX12_both) dX12_either_1 lv_X12_187 mo_X12_both hA.cn (Nat.le_of_ble_eq_true rfl) (Nat.le_of_ble_eq_true rfl) (by omega) (hf _ _ _ hB hA) (fun h hP => ?_)
  have hA := hP
  have hB := hB.gr (hG _)
  exact l_either D hL hL50 hG hf hdq 50 h0 h _ (by omega) hB hA (fun h9 z9 => hp h9 z9)
theorem s_levels (D : En) {N : Nat → Int32} {σ0 : Nat → Nat → Int32} {τ0 : Nat → Int32} {u op L dq : Nat} (hL : N 3 = nI L) (hL50 : L ≤ 50) {f : PT → PT} (hG : ∀ s, GR L u s (f s)) (hf : RD D dq mX12_one N σ0 τ0 u op L f) (hdq : 2 ≤ dq) : RD D (dq + 5) mX12_either N σ0 τ0 u op L (eiW (tpR N) L f) :=
  s_either D hL hL50 (GR_bo hG) (s_both D hL hL50 (GR_cm hG) (s_compared D hL hL50 (GR_su hG) (s_sum D hL hL50 (GR_pr hG) (s_product D hL hL50 hG hf hdq) (by omega)) (by omega)) (by omega)) (by omega)
