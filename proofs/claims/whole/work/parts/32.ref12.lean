/-! the reference's reading: fields 1 place, 2 open, 3 use, 4 wrong, 5 coded; row 7 codes -/
def tpR (N : Nat → Int32) : Nat → Int32 := fun i => N (182 + i)
def PAt (τ0 τ c : Nat → Int32) (u op : Nat) (s : PT) : Prop := τ 1 = nI s.1 ∧ τ 2 = nI op ∧ τ 3 = nI u ∧ τ 4 = b2 (s.2.1 = true) ∧ τ 5 = nI s.2.2.length ∧ (∀ i, i < s.2.2.length → c i = nI (s.2.2.getD i 0)) ∧ τ 0 = τ0 0 ∧ τ 6 = τ0 6 ∧ τ 7 = τ0 7
def PA (h0 h : AH) (N : Nat → Int32) (σ0 : Nat → Nat → Int32) (τ0 : Nat → Int32) (u op : Nat) (s : PT) : Prop := ∃ (c τ : Nat → Int32), RefAt h N (va_up σ0 7 c) τ ∧ FrR h0 h ∧ PAt τ0 τ c u op s
def PB (L : Nat) (s : PT) : Prop := s.1 ≤ L ∧ (s.2.1 = false → s.2.2.length ≤ s.1)
theorem PB.gr {L u : Nat} {s s' : PT} (hB : PB L s) (hG : GR L u s s') : PB L s' := ⟨hG.2.1 hB.1, fun z => by
  obtain ⟨a, w, e1, e2, -⟩ := hG.2.2 z
  rw [e1, List.length_append]
  have := hB.2 a
  omega⟩
theorem PB.adv {L : Nat} {s : PT} (hB : PB L s) (hl : s.1 < L) : PB L (adP s) := ⟨hl, fun z => by
  have := hB.2 z
  show _ ≤ s.1 + 1
  exact Nat.le_succ_of_le this⟩
theorem PB.lp {L u q : Nat} {s y : PT} (hB : PB L s) (hw : s.2.1 = false) (hG : GR L u (adP s) y) (hl : s.1 < L) : PB L (cdP q y) ∧ s.1 + 1 ≤ (cdP q y).1 ∧ (y.2.1 = false → y.2.2.length < 60 ∨ 59 < L) := by
  have h1 := hG.1
  have h2 := hG.2.1 hl
  have h3 := hB.2 hw
  refine ⟨⟨by rw [cdP_1]; exact h2, fun z => ?_⟩, by rw [cdP_1]; exact h1, fun z => ?_⟩
  · rw [cdP_w] at z
    obtain ⟨a, w, e1, e2, -⟩ := hG.2.2 z
    rw [cdP_1, cdP_c q y z, e1]
    simp only [List.length_append, List.length_cons, List.length_nil]
    have : (adP s).2.2.length = s.2.2.length := rfl
    have : (adP s).1 = s.1 + 1 := rfl
    omega
  · obtain ⟨a, w, e1, e2, -⟩ := hG.2.2 z
    rw [e1]
    simp only [List.length_append]
    have : (adP s).2.2.length = s.2.2.length := rfl
    have : (adP s).1 = s.1 + 1 := rfl
    omega
theorem PA.cn {h0 h : AH} {N : Nat → Int32} {σ0 : Nat → Nat → Int32} {τ0 : Nat → Int32} {u op : Nat} {s : PT} (hA : PA h0 h N σ0 τ0 u op s) : CN h 82 RX12 := by
  obtain ⟨c, τ, hR, -⟩ := hA
  exact hR.cn
theorem PAt.p1 {τ0 τ c : Nat → Int32} {u op : Nat} {s : PT} (hK : PAt τ0 τ c u op s) (k : Nat) : PAt τ0 (upd τ 1 (nI k)) c u op (k, s.2) :=
  ⟨pk_us, (pk_un (by decide)).trans hK.2.1, (pk_un (by decide)).trans hK.2.2.1, (pk_un (by decide)).trans hK.2.2.2.1, (pk_un (by decide)).trans hK.2.2.2.2.1, hK.2.2.2.2.2.1, (pk_un (by decide)).trans hK.2.2.2.2.2.2.1, (pk_un (by decide)).trans hK.2.2.2.2.2.2.2.1, (pk_un (by decide)).trans hK.2.2.2.2.2.2.2.2⟩
theorem PAt.p2 {τ0 τ c : Nat → Int32} {u op : Nat} {s : PT} (hK : PAt τ0 τ c u op s) (k : Nat) : PAt τ0 (upd τ 2 (nI k)) c u k s :=
  ⟨(pk_un (by decide)).trans hK.1, pk_us, (pk_un (by decide)).trans hK.2.2.1, (pk_un (by decide)).trans hK.2.2.2.1, (pk_un (by decide)).trans hK.2.2.2.2.1, hK.2.2.2.2.2.1, (pk_un (by decide)).trans hK.2.2.2.2.2.2.1, (pk_un (by decide)).trans hK.2.2.2.2.2.2.2.1, (pk_un (by decide)).trans hK.2.2.2.2.2.2.2.2⟩
theorem PAt.p4 {τ0 τ c : Nat → Int32} {u op : Nat} {s : PT} (hK : PAt τ0 τ c u op s) (x : Int32) (b : Bool) (hx : x = b2 (b = true)) : PAt τ0 (upd τ 4 x) c u op (s.1, b, s.2.2) :=
  ⟨(pk_un (by decide)).trans hK.1, (pk_un (by decide)).trans hK.2.1, (pk_un (by decide)).trans hK.2.2.1, pk_us.trans hx, (pk_un (by decide)).trans hK.2.2.2.2.1, hK.2.2.2.2.2.1, (pk_un (by decide)).trans hK.2.2.2.2.2.2.1, (pk_un (by decide)).trans hK.2.2.2.2.2.2.2.1, (pk_un (by decide)).trans hK.2.2.2.2.2.2.2.2⟩
theorem PAt.p5 {τ0 τ c : Nat → Int32} {u op : Nat} {s : PT} (hK : PAt τ0 τ c u op s) (q : Nat) (hw : ¬ s.2.1 = true) : PAt τ0 (upd τ 5 (nI (s.2.2.length + 1))) (upd c s.2.2.length (nI q)) u op (cdP q s) := by
  unfold cdP
  rw [if_neg hw]
  refine ⟨(pk_un (by decide)).trans hK.1, (pk_un (by decide)).trans hK.2.1, (pk_un (by decide)).trans hK.2.2.1, (pk_un (by decide)).trans hK.2.2.2.1, pk_us.trans (by show _ = nI (s.2.2 ++ [q]).length; rw [List.length_append]; rfl), fun i hi => ?_, (pk_un (by decide)).trans hK.2.2.2.2.2.2.1, (pk_un (by decide)).trans hK.2.2.2.2.2.2.2.1, (pk_un (by decide)).trans hK.2.2.2.2.2.2.2.2⟩
  show upd c s.2.2.length (nI q) i = nI ((s.2.2 ++ [q]).getD i 0)
  have hi2 : i < (s.2.2 ++ [q]).length := hi
  rw [List.length_append] at hi2
  simp only [List.length_cons, List.length_nil] at hi2
  by_cases e : i = s.2.2.length
  · subst e
    rw [pk_us]
    simp [List.getD_eq_getElem?_getD]
  · rw [pk_un e, hK.2.2.2.2.2.1 i (by omega)]
    simp only [List.getD_eq_getElem?_getD]
    rw [List.getElem?_append_left (by omega)]
theorem va_upUp {α : Type} (σ : Nat → α) (i : Nat) (f g : α) : va_up (va_up σ i f) i g = va_up σ i g := by
  funext j
  by_cases e : j = i
  · subst e; rw [va_upS, va_upS]
  · rw [va_upN _ _ e, va_upN _ _ e, va_upN _ _ e]
def tkP (tp : Nat → Int32) (L k : Nat) (s : PT) : PT := if hrP tp L s = nI k then adP s else s
/-- a reader's contract -/
def RD (D : En) (d : Nat) (m : Mt) (N : Nat → Int32) (σ0 : Nat → Nat → Int32) (τ0 : Nat → Int32) (u op L : Nat) (f : PT → PT) : Prop := ∀ (h0 h : AH) (s : PT), PB L s → PA h0 h N σ0 τ0 u op s → Sp D d m [.ref 82] h 0 0 none (fun h' => PA h0 h' N σ0 τ0 u op (f s))
set_option maxRecDepth 20000 in
theorem s_here (D : En) {h0 h : AH} {N : Nat → Int32} {σ0 : Nat → Nat → Int32} {τ0 τ c : Nat → Int32} {u op L : Nat} {s : PT} (hL : N 3 = nI L) (hL50 : L ≤ 50) (hB : PB L s) (hR : RefAt h N (va_up σ0 7 c) τ) (hF : FrR h0 h) (hK : PAt τ0 τ c u op s) : Sp D 0 mX12_here [.ref (82)] h 0 0 (some (.int (hrP (tpR N) L s))) (fun h' => h' = h) := by
  have hB1 := hB.1
  intro post hp
  show Ev D 0 mX12_here 0 [some (.ref (82))] [] h 0 0 post
  refine e_aload_n dX12_here_0 rfl ?_
  refine e_get dX12_here_1 fl_X12_173_12 hR.1 rfl ?_
  refine e_top (b2 ((s).2.1 = true)) (hK.2.2.2.1) ?_
  refine e_if_neB 36 dX12_here_4 (by decide) (fun hcq4 => ?_) (fun hcq4 => ?_)
  · refine e_iconst (((-1))) dX12_here_36 (by decide) ?_
    refine e_top (hrP (tpR N) L s) (by first | exact (if_pos ⟨eq_false_of_ne_true hcq4, hcq17⟩).symm | exact (if_neg (fun zz => by rw [hcq4] at zz; exact absurd zz.1 (by decide))).symm | exact (if_neg (fun zz => absurd zz.2 (Nat.not_lt.mpr hcq17))).symm) ?_
    exact e_iret dX12_here_37 rfl (hp _ rfl)
  · refine e_aload_n dX12_here_7 rfl ?_
    refine e_get dX12_here_8 fl_X12_177_12 hR.1 rfl ?_
    refine e_top (nI ((s).1)) (hK.1) ?_
    refine e_aload_n dX12_here_11 rfl ?_
    refine e_get dX12_here_12 fl_X12_9_12 hR.1 rfl ?_
    refine e_iconst (nI (3)) dX12_here_15 (by decide) ?_
    refine e_ild (3) (nI (L)) dX12_here_16 hR.2.1 rfl (by omega) (by decide) hL ?_
    refine e_icmp_geN 36 dX12_here_17 (by decide) (by omega) (by omega) (fun hcq17 => ?_) (fun hcq17 => ?_)
    · refine e_iconst (((-1))) dX12_here_36 (by decide) ?_
      refine e_top (hrP (tpR N) L s) (by first | exact (if_pos ⟨eq_false_of_ne_true hcq4, hcq17⟩).symm | exact (if_neg (fun zz => by rw [hcq4] at zz; exact absurd zz.1 (by decide))).symm | exact (if_neg (fun zz => absurd zz.2 (Nat.not_lt.mpr hcq17))).symm) ?_
      exact e_iret dX12_here_37 rfl (hp _ rfl)
    · refine e_aload_n dX12_here_20 rfl ?_
      refine e_get dX12_here_21 fl_X12_9_12 hR.1 rfl ?_
      refine e_sipush (nI (182)) dX12_here_24 (by decide) ?_
      refine e_aload_n dX12_here_27 rfl ?_
      refine e_get dX12_here_28 fl_X12_177_12 hR.1 rfl ?_
      refine e_top (nI ((s).1)) (hK.1) ?_
      refine e_iaddN dX12_here_31 ?_
      refine e_ild (182 + ((s).1)) ((N (182 + ((s).1)))) dX12_here_32 hR.2.1 rfl (by omega) (by decide) rfl ?_
      refine e_goto 37 dX12_here_33 (by decide) ?_
      refine e_top (hrP (tpR N) L s) (by first | exact (if_pos ⟨eq_false_of_ne_true hcq4, hcq17⟩).symm | exact (if_neg (fun zz => by rw [hcq4] at zz; exact absurd zz.1 (by decide))).symm | exact (if_neg (fun zz => absurd zz.2 (Nat.not_lt.mpr hcq17))).symm) ?_
      exact e_iret dX12_here_37 rfl (hp _ rfl)
set_option maxRecDepth 20000 in
theorem s_takes (D : En) {h0 h : AH} {N : Nat → Int32} {σ0 : Nat → Nat → Int32} {τ0 τ c : Nat → Int32} {u op L : Nat} {s : PT} (hL : N 3 = nI L) (hL50 : L ≤ 50) (hB : PB L s) (hR : RefAt h N (va_up σ0 7 c) τ) (hF : FrR h0 h) (hK : PAt τ0 τ c u op s) (k : Nat) (hk : k < 200) : Sp D 1 mX12_takes [.ref (82), .int (nI (k))] h 0 0 (some (.int (b2 (hrP (tpR N) L s = nI k)))) (fun h' => PA h0 h' N σ0 τ0 u op (tkP (tpR N) L k s)) := by
  have hB1 := hB.1
  intro post hp
  show Ev D 1 mX12_takes 0 [some (.ref (82)), some (.int (nI (k))), none] [] h 0 0 post
  refine e_aload_n dX12_takes_0 rfl ?_
  refine c_V0iR (N := mX12_here) dX12_takes_1 lv_X12_181 mo_X12_here hR.cn (Nat.le_of_ble_eq_true rfl) (Nat.le_of_ble_eq_true rfl) (by decide) (s_here D hL hL50 hB hR hF hK) ?_
  refine e_iload_n dX12_takes_4 rfl ?_
  refine e_icmp_ne 12 dX12_takes_5 (by decide) (fun hcq5 => ?_) (fun hcq5 => ?_)
  · refine e_iconst (nI (0)) dX12_takes_12 (by decide) ?_
    refine e_istore_n dX12_takes_13 (by decide) ?_
    refine e_aload_n dX12_takes_14 rfl ?_
    refine e_dup dX12_takes_15 rfl ?_
    refine e_get dX12_takes_16 fl_X12_177_12 hR.1 rfl ?_
    refine e_top (nI ((s).1)) (hK.1) ?_
    refine e_iload_n dX12_takes_19 rfl ?_
    refine e_if_eqN 27 dX12_takes_20 (by decide) (by omega) (fun hcq20 => ?_) (fun hcq20 => absurd hcq20 (by decide))
    refine e_iconst (nI (0)) dX12_takes_27 (by decide) ?_
    refine e_iaddN dX12_takes_28 ?_
    refine r_put (upd τ 1 (nI (((s).1) + 0))) dX12_takes_29 fl_X12_177_12 hR hF rfl (by decide) rfl rfl rfl (fun h hR hF => ?_)
    have hK := hK.p1 (((s).1) + 0)
    obtain ⟨τ, hτq⟩ : ∃ z, z = upd τ 1 (nI (((s).1) + 0)) := ⟨_, rfl⟩
    rw [← hτq] at hR hK
    clear hτq
    skip
    refine e_iload_n dX12_takes_32 rfl ?_
    refine e_top (b2 (hrP (tpR N) L s = nI k)) ((b2_f hcq5).symm) ?_
    exact e_zretB dX12_takes_33 rfl (hp _ ⟨c, τ, hR, hF, by unfold tkP; rw [if_neg hcq5]; exact hK⟩)
  · refine e_iconst (nI (1)) dX12_takes_8 (by decide) ?_
    refine e_goto 13 dX12_takes_9 (by decide) ?_
    refine e_istore_n dX12_takes_13 (by decide) ?_
    refine e_aload_n dX12_takes_14 rfl ?_
    refine e_dup dX12_takes_15 rfl ?_
    refine e_get dX12_takes_16 fl_X12_177_12 hR.1 rfl ?_
    refine e_top (nI ((s).1)) (hK.1) ?_
    refine e_iload_n dX12_takes_19 rfl ?_
    refine e_if_eqN 27 dX12_takes_20 (by decide) (by omega) (fun hcq20 => absurd hcq20 (by decide)) (fun hcq20 => ?_)
    refine e_iconst (nI (1)) dX12_takes_23 (by decide) ?_
    refine e_goto 28 dX12_takes_24 (by decide) ?_
    refine e_iaddN dX12_takes_28 ?_
    refine r_put (upd τ 1 (nI (((s).1) + 1))) dX12_takes_29 fl_X12_177_12 hR hF rfl (by decide) rfl rfl rfl (fun h hR hF => ?_)
    have hK := hK.p1 (((s).1) + 1)
    obtain ⟨τ, hτq⟩ : ∃ z, z = upd τ 1 (nI (((s).1) + 1)) := ⟨_, rfl⟩
    rw [← hτq] at hR hK
    clear hτq
    skip
    refine e_iload_n dX12_takes_32 rfl ?_
    refine e_top (b2 (hrP (tpR N) L s = nI k)) ((b2_t hcq5).symm) ?_
    exact e_zretB dX12_takes_33 rfl (hp _ ⟨c, τ, hR, hF, by unfold tkP; rw [if_pos hcq5]; exact hK⟩)
set_option maxRecDepth 20000 in
theorem s_codes (D : En) {h0 h : AH} {N : Nat → Int32} {σ0 : Nat → Nat → Int32} {τ0 τ c : Nat → Int32} {u op L : Nat} {s : PT} (hL : N 3 = nI L) (hL50 : L ≤ 50) (hB : PB L s) (hR : RefAt h N (va_up σ0 7 c) τ) (hF : FrR h0 h) (hK : PAt τ0 τ c u op s) (qc : Nat) (hl60 : s.2.1 = false → s.2.2.length < 60) : Sp D 0 mX12_codes [.ref (82), .int (nI (qc))] h 0 0 (none) (fun h' => PA h0 h' N σ0 τ0 u op (cdP qc s)) := by
  intro post hp
  show Ev D 0 mX12_codes 0 [some (.ref (82)), some (.int (nI (qc)))] [] h 0 0 post
  refine e_aload_n dX12_codes_0 rfl ?_
  refine e_get dX12_codes_1 fl_X12_173_12 hR.1 rfl ?_
  refine e_top (b2 ((s).2.1 = true)) (hK.2.2.2.1) ?_
  refine e_if_neB 27 dX12_codes_4 (by decide) (fun hcq4 => ?_) (fun hcq4 => ?_)
  · exact e_vret dX12_codes_27 rfl (hp _ ⟨_, τ, hR, hF, by first | exact hK | (unfold cdP; rw [if_pos hcq4]; exact hK)⟩)
  · have hl9 := hl60 (eq_false_of_ne_true hcq4)
    refine e_aload_n dX12_codes_7 rfl ?_
    refine e_get dX12_codes_8 fl_X12_40_12 hR.1 rfl ?_
    refine e_aload_n dX12_codes_11 rfl ?_
    refine e_get dX12_codes_12 fl_X12_184_12 hR.1 rfl ?_
    refine e_top (nI ((s).2.2.length)) (hK.2.2.2.2.1) ?_
    refine e_iload_n dX12_codes_15 rfl ?_
    refine r_st 7 ((s).2.2.length) dX12_codes_16 hR hF rfl (by decide) rfl (by show _ < 60; omega) (fun h hR hF => ?_)
    rw [va_upUp, va_upS] at hR
    refine e_aload_n dX12_codes_17 rfl ?_
    refine e_dup dX12_codes_18 rfl ?_
    refine e_get dX12_codes_19 fl_X12_184_12 hR.1 rfl ?_
    refine e_top (nI ((s).2.2.length)) (hK.2.2.2.2.1) ?_
    refine e_iconst (nI (1)) dX12_codes_22 (by decide) ?_
    refine e_iaddN dX12_codes_23 ?_
    refine r_put (upd τ 5 (nI (((s).2.2.length) + 1))) dX12_codes_24 fl_X12_184_12 hR hF rfl (by decide) rfl rfl rfl (fun h hR hF => ?_)
    have hK := hK.p5 qc hcq4
    obtain ⟨τ, hτq⟩ : ∃ z, z = upd τ 5 (nI (((s).2.2.length) + 1)) := ⟨_, rfl⟩
    rw [← hτq] at hR hK
    clear hτq
    exact e_vret dX12_codes_27 rfl (hp _ ⟨_, τ, hR, hF, by first | exact hK | (unfold cdP; rw [if_pos hcq4]; exact hK)⟩)
