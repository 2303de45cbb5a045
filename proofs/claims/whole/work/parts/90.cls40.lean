theorem kpC_bt {N : Nat → Int32} : ∀ t, t ≤ 10 → ∀ i, i < 32 → bt (kpC N t).1 i = true → i < t := by
  intro t
  induction t with
  | zero =>
    intro _ i hi h
    rw [show (kpC N 0).1 = nI 0 from rfl, bt_0 i hi] at h
    cases h
  | succ t ih =>
    intro ht i hi h
    rw [kpC] at h
    split at h
    · rw [bt_or, bt_sh1 t (by omega) i hi, Bool.or_eq_true, decide_eq_true_iff] at h
      rcases h with h | h
      · have := ih (by omega) i hi h; omega
      · omega
    · rw [bt_or, bt_0 i hi, Bool.or_false] at h
      have := ih (by omega) i hi h; omega
theorem b2_1 {P : Prop} [Decidable P] : b2 P = nI 1 ↔ P := by
  unfold b2
  by_cases q : P
  · rw [if_pos q]; exact ⟨fun _ => q, fun _ => rfl⟩
  · rw [if_neg q]; exact ⟨fun e => absurd e (by decide), fun e => absurd e q⟩
theorem rg_b2 {P : Prop} [Decidable P] : rg (b2 P) 1 := by
  unfold b2
  split
  · exact rg_nI (a := 1) (by decide) (by decide)
  · exact rg_nI (a := 0) (by decide) (by decide)
theorem kpO_IN {N : Nat → Int32} (hI : IN N) (ch e : Int32) : ∀ n, n ≤ 10 → IN (kpO N ch e n) ∧ OPN N (kpO N ch e n) := by
  intro n
  induction n with
  | zero => intro _; exact ⟨hI, OPN.rf⟩
  | succ n ih =>
    intro hn
    obtain ⟨h1, h2⟩ := ih (by omega)
    rw [kpO]
    refine ⟨IN_op h1 (by omega) ?_, h2.up (by omega)⟩
    split
    · exact rg_b2
    · exact rg_b2
theorem kpO_hi {N : Nat → Int32} {ch e : Int32} : ∀ n t, n ≤ t → kpO N ch e n (112 + 7 * t + 5) = N (112 + 7 * t + 5) := by
  intro n
  induction n with
  | zero => intro t _; rfl
  | succ n ih =>
    intro t ht
    rw [kpO, pk_un (by omega)]
    exact ih t (by omega)
theorem kpO_get {N : Nat → Int32} {ch e : Int32} : ∀ n t, t < n → n ≤ 10 → (kpO N ch e n (112 + 7 * t + 5) = nI 1 ↔ (if bt ch t = true then bt e t = true else N (112 + 7 * t + 5) = nI 1)) := by
  intro n
  induction n with
  | zero => intro t ht; omega
  | succ n ih =>
    intro t ht hn
    rw [kpO]
    by_cases q : t = n
    · subst q
      rw [pk_us, kpO_hi t t (Nat.le_refl _)]
      by_cases z : bt ch t = true
      · rw [if_pos ((tb1 (by omega)).mpr z), if_pos z, b2_1, tb1 (by omega)]
      · rw [if_neg (fun w => z ((tb1 (by omega)).mp w)), if_neg z, b2_1]
    · rw [pk_un (by omega)]
      exact ih t (by omega) (by omega)
theorem kp_bits {N : Nat → Int32} (hI : IN N) {ch e : Int32} (hch : ∀ i, i < 32 → bt ch i = true → i < tcN N) (hm : e &&& (ch ^^^ (-1)) = 0) : (opB N &&& (ch ^^^ (-1))) ||| e = opB (kpO N ch e (tcN N)) := by
  have h10 := hI.1.2.2.2.1
  have hO := (kpO_IN hI ch e (tcN N) h10).2
  have hT : tcN (kpO N ch e (tcN N)) = tcN N := hO.e3.2.1
  have hmk : ∀ i, i < 32 → bt e i = true → bt ch i = true := by
    intro i hi h
    have := congrArg (fun z => bt z i) hm
    simp only [bt_and, bt_xor, bt_m1 i hi, h, show bt (0 : Int32) i = false from bt_0 i hi] at this
    cases q : bt ch i
    · rw [q] at this; cases this
    · rfl
  apply bt_ext
  intro i hi
  rw [bt_or, bt_and, bt_xor, bt_m1 i hi, bt_op h10 i hi, bt_op (by rw [hT]; exact h10) i hi, hT]
  by_cases hit : i < tcN N
  · have hg := kpO_get (N := N) (ch := ch) (e := e) (tcN N) i hit h10
    cases hc : bt ch i
    · rw [if_neg (by rw [hc]; decide)] at hg
      have he : bt e i = false := by
        cases q : bt e i
        · rfl
        · have := hmk i hi q; rw [hc] at this; cases this
      rw [he, Bool.or_false, show (false ^^ true) = true from rfl, Bool.and_true]
      exact decide_eq_decide.mpr ⟨fun q => ⟨q.1, hg.mpr q.2⟩, fun q => ⟨q.1, hg.mp q.2⟩⟩
    · rw [if_pos hc] at hg
      rw [show (true ^^ true) = false from rfl, Bool.and_false, Bool.false_or]
      cases q : bt e i
      · rw [decide_eq_false]
        intro z
        have := hg.mp z.2
        rw [q] at this
        cases this
      · rw [decide_eq_true]
        exact ⟨hit, hg.mpr q⟩
  · have he : bt e i = false := by
      cases q : bt e i
      · rfl
      · exact absurd (hch i hi (hmk i hi q)) hit
    rw [he, decide_eq_false (fun z => hit z.1), decide_eq_false (fun z => hit z.1)]
    rfl
def R3 (q : Int32 × Int32 × Int32) (x y z : Int32) : Prop := ∃ m l, m < 2 ^ 31 ∧ l < 2 ^ 31 ∧ q = (nI m, nI l, z) ∧ x = nI m ∧ y = nI l
def K3 (e : Nat) (q : Int32 × Int32 × Int32) (x y z : Int32) : Prop := (e = 0 ∧ q.1 = -1 ∧ x = nI 0 ∧ y = -1 ∧ z = nI 0) ∨ R3 q x y z
def ksF (c C L : Int32) (e : Nat) (q : Int32 × Int32 × Int32) : Int32 × Int32 × Int32 := if c < C then q else if q.1 < 0 then (nI e, L, C) else if q.2.1 < L then (nI e, L, C) else if L = q.2.1 then (if q.2.2 ≤ C then q else (nI e, L, C)) else q
theorem R3.over {c C L : Int32} {e : Nat} {q : Int32 × Int32 × Int32} {x y z : Int32} (h : R3 q x y z) (hc : c < C) : R3 (ksF c C L e q) x y z := by
  unfold ksF
  rw [if_pos hc]
  exact h
theorem K3.take {c C L : Int32} {e l : Nat} {q : Int32 × Int32 × Int32} {x y z : Int32} (h : K3 e q x y z) (he : e < 2 ^ 31) (hl : l < 2 ^ 31) (hL : L = nI l) (hc : ¬ c < C) (ht : y < L ∨ (L = y ∧ ¬ z ≤ C)) : R3 (ksF c C L e q) (nI e) L C := by
  refine ⟨e, l, he, hl, ?_, rfl, hL⟩
  rw [← hL]
  unfold ksF
  rw [if_neg hc]
  rcases h with ⟨-, e1, -, -, -⟩ | ⟨m, l3, l1, l2, e1, e2, e3⟩
  · rw [e1, if_pos (by decide)]
  · rw [e1, if_neg (nI_nl l1)]
    show (if nI l3 < L then (nI e, L, C) else if L = nI l3 then (if z ≤ C then (nI m, nI l3, z) else (nI e, L, C)) else (nI m, nI l3, z)) = _
    rw [← e3]
    rcases ht with ht | ⟨t1, t2⟩
    · rw [if_pos ht]
    · by_cases w : y < L
      · rw [if_pos w]
      · rw [if_neg w, if_pos t1, if_neg t2]
theorem K3.skip {c C L : Int32} {e l : Nat} {q : Int32 × Int32 × Int32} {x y z : Int32} (h : K3 e q x y z) (hl : l < 2 ^ 31) (hL : L = nI l) (hc : ¬ c < C) (h1 : ¬ y < L) (h2 : ¬ L = y ∨ z ≤ C) : R3 (ksF c C L e q) x y z := by
  rcases h with ⟨-, -, -, e3, -⟩ | ⟨m, l3, l1, l2, e1, e2, e3⟩
  · exfalso
    rw [e3, hL] at h1
    exact nI_gt hl (Int32.not_lt.mp h1)
  · refine ⟨m, l3, l1, l2, ?_, e2, e3⟩
    unfold ksF
    rw [if_neg hc, e1, if_neg (nI_nl l1)]
    show (if nI l3 < L then (nI e, L, C) else if L = nI l3 then (if z ≤ C then (nI m, nI l3, z) else (nI e, L, C)) else (nI m, nI l3, z)) = _
    rw [← e3, if_neg h1]
    by_cases w : L = y
    · rw [if_pos w, if_pos (h2.resolve_left (fun z => z w))]
    · rw [if_neg w]
theorem kpS_eq (N : Nat → Int32) (c ch : Int32) (n e : Nat) (q : Int32 × Int32 × Int32) : kpS N c ch n e q = if nI e &&& (ch ^^^ (-1)) = 0 then ksF c (sumF (kpK N (nI e)) (tcN N)) (kpL N ch (nI e) n) e q else q := rfl
theorem kpK_0 (N : Nat → Int32) : ∀ n, n ≤ 10 → sumF (kpK N (nI 0)) n = nI 0 := by
  intro n
  induction n with
  | zero => intro _; rfl
  | succ n ih =>
    intro h
    rw [sumF, ih (by omega), kpK, if_neg (fun z => by rw [tb1 (by omega), bt_0 n (by omega)] at z; cases z), add_0]
theorem and_z (x : Int32) : nI 0 &&& x = 0 := bt_ext (fun i hi => by rw [bt_and, bt_0 i hi, show bt (0 : Int32) i = false from bt_0 i hi]; rfl)
theorem K3.r {e : Nat} {q : Int32 × Int32 × Int32} {x y z : Int32} (h : K3 e q x y z) (he : e ≠ 0) : R3 q x y z := h.resolve_left (fun w => he w.1)
theorem R3.ne {q : Int32 × Int32 × Int32} {x y z : Int32} (h : R3 q x y z) : ¬ y < -1 ∧ ¬ (-1 : Int32) = y := by
  obtain ⟨m, l, -, l2, -, -, e⟩ := h
  rw [e]
  refine ⟨fun w => nI_gt l2 (Int32.le_of_lt w), fun w => ?_⟩
  exact nI_gt l2 (by rw [← w]; decide)
set_option maxRecDepth 20000 in
theorem cl_keep (D : En) {s : SS} (hI : INV s) {h00 : AH} {post : Option Value → AH → Prop} (c n w : Int32) (hc0 : nI 0 ≤ c) (hn_n : n = nI (tn n)) (hl_n : tn n ≤ 40) (hn_w : w = nI (tn w)) (hl_w : tn w ≤ 1) (m : Nat) (hm10 : m < 1024) (hbt : ∀ i, i < 32 → bt (nI m) i = true → i < tcN (sN s)) (hp : ∀ h', (ClsS h' ((if tn w = 0 then ((kpF (sN s) c (nI m) (tn n) (m + 1)).1, s) else ((kpF (sN s) c (nI m) (tn n) (m + 1)).2.1, s))).2 ∧ FrC h00 h') → post (some (.int ((if tn w = 0 then ((kpF (sN s) c (nI m) (tn n) (m + 1)).1, s) else ((kpF (sN s) c (nI m) (tn n) (m + 1)).2.1, s))).1)) h') : ∀ (j : Nat) (e : Nat) (x z y : Int32) (h : AH), (e + j = m + 1) → (ClsS h s) → (FrC h00 h) → (K3 e (kpF (sN s) c (nI m) (tn n) e) x y z) → Ev D 9 mX11_keep 59 [some (.ref (11)), some (.int (c)), some (.int (n)), some (.int (w)), some (.int (nI (m))), some (.int (x)), some (.int (z)), some (.int (y)), some (.int (nI (e))), none, none] [] h 0 0 post := by
  have hY := hI.1.1
  have hnv := hY.2.1
  have htc10 := hY.2.2.2.1
  intro j
  induction j with
  | zero =>
    intro e x z y h hm hC hF hQ
    refine e_iload dX11_keep_59 rfl ?_
    refine e_iload dX11_keep_61 rfl ?_
    refine e_icmp_gtN 167 dX11_keep_63 (by decide) (by omega) (by omega) (fun hcq63 => ?_) (fun hcq63 => absurd hcq63 (by omega))
    refine e_iload_n dX11_keep_167 rfl ?_
    refine e_top (nI (tn w)) (hn_w) ?_
    refine e_if_neN 176 dX11_keep_168 (by decide) (by omega) (fun hcq168 => ?_) (fun hcq168 => ?_)
    · refine e_iload dX11_keep_176 rfl ?_
      have hR := hQ.r (by omega)
      rw [show e = m + 1 by omega] at hR
      obtain ⟨m9, l9, -, -, e1, e2, e3⟩ := hR
      have e8 : (if tn w = 0 then ((kpF (sN s) c (nI m) (tn n) (m + 1)).1, s) else ((kpF (sN s) c (nI m) (tn n) (m + 1)).2.1, s)) = ((y), s) := by rw [if_neg hcq168, e1, e3]
      rw [e8] at hp
      exact e_iret dX11_keep_178 rfl (hp _ ⟨hC, hF⟩)
    · refine e_iload dX11_keep_171 rfl ?_
      refine e_goto 178 dX11_keep_173 (by decide) ?_
      have hR := hQ.r (by omega)
      rw [show e = m + 1 by omega] at hR
      obtain ⟨m9, l9, -, -, e1, e2, e3⟩ := hR
      have e8 : (if tn w = 0 then ((kpF (sN s) c (nI m) (tn n) (m + 1)).1, s) else ((kpF (sN s) c (nI m) (tn n) (m + 1)).2.1, s)) = ((x), s) := by rw [if_pos hcq168, e1, e2]
      rw [e8] at hp
      exact e_iret dX11_keep_178 rfl (hp _ ⟨hC, hF⟩)
  | succ j ih =>
    intro e x z y h hm hC hF hQ
    refine e_iload dX11_keep_59 rfl ?_
    refine e_iload dX11_keep_61 rfl ?_
    refine e_icmp_gtN 167 dX11_keep_63 (by decide) (by omega) (by omega) (fun hcq63 => absurd hcq63 (by omega)) (fun hcq63 => ?_)
    refine e_iload dX11_keep_66 rfl ?_
    refine e_iload dX11_keep_68 rfl ?_
    refine e_iconst (((-1))) dX11_keep_70 (by decide) ?_
    refine e_ixor dX11_keep_71 ?_
    refine e_iand dX11_keep_72 ?_
    refine e_if_eq 79 dX11_keep_73 (by decide) (fun hcq73 => ?_) (fun hcq73 => ?_)
    · refine e_aload_n dX11_keep_79 rfl ?_
      refine e_get dX11_keep_80 fl_X11_10_11 hC.1 rfl ?_
      refine e_get dX11_keep_83 fl_X11_58_2 hC.2.1.1 rfl ?_
      refine e_iload dX11_keep_86 rfl ?_
      refine c_V1iR (N := mX4_costOf) dX11_keep_88 lv_X11_261 mo_X4_costOf hC.L.1.cn (Nat.le_of_ble_eq_true rfl) (Nat.le_of_ble_eq_true rfl) (by decide) (k_costOf D hC.L.1 hI.1 (nI (e))) ?_
      refine e_istore dX11_keep_91 (by decide) ?_
      refine e_iload dX11_keep_93 rfl ?_
      refine e_iload_n dX11_keep_95 rfl ?_
      refine e_icmp_le 103 dX11_keep_96 (by decide) (fun hcq96 => ?_) (fun hcq96 => ?_)
      · obtain ⟨l9, hl9, hL9⟩ : ∃ l, l < 2 ^ 31 ∧ kpL (sN s) (nI m) (nI e) (tn n) = nI l := ah_nn (kpO_IN hI.1 _ _ _ htc10).1 (kpO_IN hI.1 _ _ _ htc10).2.e3 hnv _
        refine e_aload_n dX11_keep_103 rfl ?_
        refine e_aload_n dX11_keep_104 rfl ?_
        refine e_get dX11_keep_105 fl_X11_10_11 hC.1 rfl ?_
        refine e_get dX11_keep_108 fl_X11_58_2 hC.2.1.1 rfl ?_
        refine e_get dX11_keep_111 fl_X11_239_4 hC.2.1.2.1.1 rfl ?_
        refine e_iload dX11_keep_114 rfl ?_
        refine e_iconst (((-1))) dX11_keep_116 (by decide) ?_
        refine e_ixor dX11_keep_117 ?_
        refine e_iand dX11_keep_118 ?_
        refine e_iload dX11_keep_119 rfl ?_
        refine e_ior dX11_keep_121 ?_
        refine e_iload_n dX11_keep_122 rfl ?_
        refine e_top (nI (tn n)) (hn_n) ?_
        refine c_V2i (nc := 0) (ns := 0) (mc := 0) (ms := 0) (N := mX11_leftWithOpen) dX11_keep_123 lv_X11_264 mo_X11_leftWithOpen hC.cn (Nat.le_of_ble_eq_true rfl) (Nat.le_of_ble_eq_true rfl) (by decide) (c_lwO D hI hC (N' := kpO (sN s) (nI m) (nI e) (tcN (sN s))) ((((opB (sN s)) &&& (nI (m) ^^^ ((-1)))) ||| nI (e))) (tn n) (by omega) (kpO_IN hI.1 _ _ _ htc10).2 (kp_bits hI.1 hbt hcq73) (kpO_IN hI.1 _ _ _ htc10).1) (fun h hP => ?_)
        obtain ⟨hC, hF1⟩ := hP
        have hF := hF.trans hF1
        refine e_top ((kpL (sN s) (nI m) (nI e) (tn n))) (rfl) ?_
        refine e_istore dX11_keep_126 (by decide) ?_
        refine e_iload dX11_keep_128 rfl ?_
        refine e_iload dX11_keep_130 rfl ?_
        refine e_icmp_gt 149 dX11_keep_132 (by decide) (fun hcq132 => ?_) (fun hcq132 => ?_)
        · refine e_iload dX11_keep_149 rfl ?_
          refine e_istore dX11_keep_151 (by decide) ?_
          refine e_iload dX11_keep_153 rfl ?_
          refine e_istore dX11_keep_155 (by decide) ?_
          refine e_iload dX11_keep_157 rfl ?_
          refine e_istore dX11_keep_159 (by decide) ?_
          refine e_iincN (e + 1) dX11_keep_161 rfl (by decide) (nI_add _ _) ?_
          refine e_goto 59 dX11_keep_164 (by decide) ?_
          refine Ev.drop 9 (Ev.drop 10 ?_)
          exact ih (e + 1) _ _ _ _ (by omega) hC hF (Or.inr (by rw [kpF, kpS_eq, if_pos hcq73]; exact hQ.take (by omega) hl9 hL9 (Int32.not_lt.mpr hcq96) (Or.inl hcq132)))
        · refine e_iload dX11_keep_135 rfl ?_
          refine e_iload dX11_keep_137 rfl ?_
          refine e_icmp_ne 161 dX11_keep_139 (by decide) (fun hcq139 => ?_) (fun hcq139 => ?_)
          · refine e_iincN (e + 1) dX11_keep_161 rfl (by decide) (nI_add _ _) ?_
            refine e_goto 59 dX11_keep_164 (by decide) ?_
            refine Ev.drop 9 (Ev.drop 10 ?_)
            exact ih (e + 1) _ _ _ _ (by omega) hC hF (Or.inr (by rw [kpF, kpS_eq, if_pos hcq73]; exact hQ.skip hl9 hL9 (Int32.not_lt.mpr hcq96) hcq132 (Or.inl hcq139)))
          · refine e_iload dX11_keep_142 rfl ?_
            refine e_iload dX11_keep_144 rfl ?_
            refine e_icmp_ge 161 dX11_keep_146 (by decide) (fun hcq146 => ?_) (fun hcq146 => ?_)
            · refine e_iincN (e + 1) dX11_keep_161 rfl (by decide) (nI_add _ _) ?_
              refine e_goto 59 dX11_keep_164 (by decide) ?_
              refine Ev.drop 9 (Ev.drop 10 ?_)
              exact ih (e + 1) _ _ _ _ (by omega) hC hF (Or.inr (by rw [kpF, kpS_eq, if_pos hcq73]; exact hQ.skip hl9 hL9 (Int32.not_lt.mpr hcq96) hcq132 (Or.inr hcq146)))
            · refine e_iload dX11_keep_149 rfl ?_
              refine e_istore dX11_keep_151 (by decide) ?_
              refine e_iload dX11_keep_153 rfl ?_
              refine e_istore dX11_keep_155 (by decide) ?_
              refine e_iload dX11_keep_157 rfl ?_
              refine e_istore dX11_keep_159 (by decide) ?_
              refine e_iincN (e + 1) dX11_keep_161 rfl (by decide) (nI_add _ _) ?_
              refine e_goto 59 dX11_keep_164 (by decide) ?_
              refine Ev.drop 9 (Ev.drop 10 ?_)
              exact ih (e + 1) _ _ _ _ (by omega) hC hF (Or.inr (by rw [kpF, kpS_eq, if_pos hcq73]; exact hQ.take (by omega) hl9 hL9 (Int32.not_lt.mpr hcq96) (Or.inr ⟨hcq139, hcq146⟩)))
      · refine e_iconst (((-1))) dX11_keep_99 (by decide) ?_
        refine e_goto 126 dX11_keep_100 (by decide) ?_
        refine e_istore dX11_keep_126 (by decide) ?_
        refine e_iload dX11_keep_128 rfl ?_
        refine e_iload dX11_keep_130 rfl ?_
        refine e_icmp_gt 149 dX11_keep_132 (by decide) (fun hcq132 => ?_) (fun hcq132 => ?_)
        · refine e_iload dX11_keep_149 rfl ?_
          refine e_istore dX11_keep_151 (by decide) ?_
          refine e_iload dX11_keep_153 rfl ?_
          refine e_istore dX11_keep_155 (by decide) ?_
          refine e_iload dX11_keep_157 rfl ?_
          refine e_istore dX11_keep_159 (by decide) ?_
          refine e_iincN (e + 1) dX11_keep_161 rfl (by decide) (nI_add _ _) ?_
          refine e_goto 59 dX11_keep_164 (by decide) ?_
          exact absurd hcq132 ((hQ.r (fun z => absurd (show c < nI 0 by have w := hcq96; rw [z, kpK_0 _ _ htc10] at w; exact Int32.not_le.mp w) (Int32.not_lt.mpr hc0))).ne.1)
        · refine e_iload dX11_keep_135 rfl ?_
          refine e_iload dX11_keep_137 rfl ?_
          refine e_icmp_ne 161 dX11_keep_139 (by decide) (fun hcq139 => ?_) (fun hcq139 => ?_)
          · refine e_iincN (e + 1) dX11_keep_161 rfl (by decide) (nI_add _ _) ?_
            refine e_goto 59 dX11_keep_164 (by decide) ?_
            refine Ev.drop 9 (Ev.drop 10 ?_)
            exact ih (e + 1) _ _ _ _ (by omega) hC hF (Or.inr (by rw [kpF, kpS_eq, if_pos hcq73]; exact (hQ.r (fun z => absurd (show c < nI 0 by have w := hcq96; rw [z, kpK_0 _ _ htc10] at w; exact Int32.not_le.mp w) (Int32.not_lt.mpr hc0))).over (Int32.not_le.mp hcq96)))
          · refine e_iload dX11_keep_142 rfl ?_
            refine e_iload dX11_keep_144 rfl ?_
            refine e_icmp_ge 161 dX11_keep_146 (by decide) (fun hcq146 => ?_) (fun hcq146 => ?_)
            · refine e_iincN (e + 1) dX11_keep_161 rfl (by decide) (nI_add _ _) ?_
              refine e_goto 59 dX11_keep_164 (by decide) ?_
              exact absurd hcq139 ((hQ.r (fun z => absurd (show c < nI 0 by have w := hcq96; rw [z, kpK_0 _ _ htc10] at w; exact Int32.not_le.mp w) (Int32.not_lt.mpr hc0))).ne.2)
            · refine e_iload dX11_keep_149 rfl ?_
              refine e_istore dX11_keep_151 (by decide) ?_
              refine e_iload dX11_keep_153 rfl ?_
              refine e_istore dX11_keep_155 (by decide) ?_
              refine e_iload dX11_keep_157 rfl ?_
              refine e_istore dX11_keep_159 (by decide) ?_
              refine e_iincN (e + 1) dX11_keep_161 rfl (by decide) (nI_add _ _) ?_
              refine e_goto 59 dX11_keep_164 (by decide) ?_
              exact absurd hcq139 ((hQ.r (fun z => absurd (show c < nI 0 by have w := hcq96; rw [z, kpK_0 _ _ htc10] at w; exact Int32.not_le.mp w) (Int32.not_lt.mpr hc0))).ne.2)
    · refine e_goto 161 dX11_keep_76 (by decide) ?_
      refine e_iincN (e + 1) dX11_keep_161 rfl (by decide) (nI_add _ _) ?_
      refine e_goto 59 dX11_keep_164 (by decide) ?_
      refine Ev.drop 9 (Ev.drop 10 ?_)
      exact ih (e + 1) _ _ _ _ (by omega) hC hF (Or.inr (by rw [kpF, kpS_eq, if_neg hcq73]; exact hQ.r (fun z => hcq73 (by rw [z]; exact and_z _))))
set_option maxRecDepth 20000 in
theorem cp_keep (D : En) {h : AH} {s : SS} (hI : INV s) (hC : ClsS h s) (c : Int32) (n : Int32) (w : Int32) : Sp D 9 mX11_keep [.ref (11), .int (c), .int (n), .int (w)] h 0 0 (some (.int (f_keep s c n w).1)) (fun h' => ClsS h' (f_keep s c n w).2 ∧ FrC h h') := by
  have hY := hI.1.1
  have hnv := hY.2.1
  have htc10 := hY.2.2.2.1
  obtain ⟨h00, hh00⟩ : ∃ z, z = h := ⟨_, rfl⟩
  have hF : FrC h00 h := by rw [hh00]; exact FrC.rf
  intro post hp
  rw [← hh00] at hp
  show Ev D 9 mX11_keep 0 [some (.ref (11)), some (.int (c)), some (.int (n)), some (.int (w)), none, none, none, none, none, none, none] [] h 0 0 post
  refine e_iload_n dX11_keep_0 rfl ?_
  refine e_iconst (nI (0)) dX11_keep_1 (by decide) ?_
  refine e_sipush (nI (9999)) dX11_keep_2 (by decide) ?_
  refine c_S3iR (N := mX11_within) dX11_keep_5 ls_X11_72 mo_X11_within  (Nat.le_of_ble_eq_true rfl) (Nat.le_of_ble_eq_true rfl) (by decide) (c_within D ((c)) (nI (0)) (nI (9999))) ?_
  refine e_if_eqB 27 dX11_keep_8 (by decide) (fun hcq8 => ?_) (fun hcq8 => ?_)
  · refine e_aload_n dX11_keep_27 rfl ?_
    refine e_iconst (nI (1)) dX11_keep_28 (by decide) ?_
    refine c_V1i (nc := 0) (ns := 0) (mc := 0) (ms := 0) (N := mX11_error) dX11_keep_29 lv_X11_54 mo_X11_error hC.cn (Nat.le_of_ble_eq_true rfl) (Nat.le_of_ble_eq_true rfl) (by decide) (c_error D hC 1 (by decide)) (fun h hP => ?_)
    obtain ⟨hC, hF1⟩ := hP
    have hF := hF.trans hF1
    have e9 : f_keep s c n w = er 1 (s) := by rw [f_keep, if_neg hcq8]
    rw [e9] at hp
    exact e_iret dX11_keep_32 rfl (hp _ ⟨hC, hF⟩)
  · obtain ⟨hn_c, hg_c, hl_c⟩ := wiN hcq8 (by decide) (by decide)
    refine e_iload_n dX11_keep_11 rfl ?_
    refine c_S1iR (N := mX11_isAhead) dX11_keep_12 ls_X11_229 mo_X11_isAhead  (Nat.le_of_ble_eq_true rfl) (Nat.le_of_ble_eq_true rfl) (by decide) (c_isA D ((n))) ?_
    refine e_if_eqB 27 dX11_keep_15 (by decide) (fun hcq15 => ?_) (fun hcq15 => ?_)
    · refine e_aload_n dX11_keep_27 rfl ?_
      refine e_iconst (nI (1)) dX11_keep_28 (by decide) ?_
      refine c_V1i (nc := 0) (ns := 0) (mc := 0) (ms := 0) (N := mX11_error) dX11_keep_29 lv_X11_54 mo_X11_error hC.cn (Nat.le_of_ble_eq_true rfl) (Nat.le_of_ble_eq_true rfl) (by decide) (c_error D hC 1 (by decide)) (fun h hP => ?_)
      obtain ⟨hC, hF1⟩ := hP
      have hF := hF.trans hF1
      have e9 : f_keep s c n w = er 1 (s) := by rw [f_keep, if_pos hcq8, if_neg hcq15]
      rw [e9] at hp
      exact e_iret dX11_keep_32 rfl (hp _ ⟨hC, hF⟩)
    · obtain ⟨hn_n, hg_n, hl_n⟩ := wiN hcq15 (by decide) (by decide)
      refine e_iload_n dX11_keep_18 rfl ?_
      refine e_iconst (nI (0)) dX11_keep_19 (by decide) ?_
      refine e_iconst (nI (1)) dX11_keep_20 (by decide) ?_
      refine c_S3iR (N := mX11_within) dX11_keep_21 ls_X11_72 mo_X11_within  (Nat.le_of_ble_eq_true rfl) (Nat.le_of_ble_eq_true rfl) (by decide) (c_within D ((w)) (nI (0)) (nI (1))) ?_
      refine e_if_neB 33 dX11_keep_24 (by decide) (fun hcq24 => ?_) (fun hcq24 => ?_)
      · obtain ⟨hn_w, hg_w, hl_w⟩ := wiN hcq24 (by decide) (by decide)
        obtain ⟨m, m1, m2, m3⟩ := kpC_m (sN s) (tcN (sN s)) htc10
        have hm10 : m < 1024 := Nat.lt_of_lt_of_le m1 (Nat.pow_le_pow_right (by decide) htc10)
        have hbt := kpC_bt (N := sN s) (tcN (sN s)) htc10
        rw [m2] at hbt
        refine e_aload_n dX11_keep_33 rfl ?_
        refine e_get dX11_keep_34 fl_X11_10_11 hC.1 rfl ?_
        refine e_get dX11_keep_37 fl_X11_58_2 hC.2.1.1 rfl ?_
        refine e_bipush (nI (6)) dX11_keep_40 (by decide) ?_
        refine c_V1iR (N := mX4_firstOpen) dX11_keep_42 lv_X11_258 mo_X4_firstOpen hC.L.1.cn (Nat.le_of_ble_eq_true rfl) (Nat.le_of_ble_eq_true rfl) (by decide) (k_first D hC.L.1 hI.1 ) ?_
        refine e_top (nI (m)) (m2) ?_
        refine e_istore dX11_keep_45 (by decide) ?_
        refine e_iconst (nI (0)) dX11_keep_47 (by decide) ?_
        refine e_istore dX11_keep_48 (by decide) ?_
        refine e_iconst (nI (0)) dX11_keep_50 (by decide) ?_
        refine e_istore dX11_keep_51 (by decide) ?_
        refine e_iconst (((-1))) dX11_keep_53 (by decide) ?_
        refine e_istore dX11_keep_54 (by decide) ?_
        refine e_iconst (nI (0)) dX11_keep_56 (by decide) ?_
        refine e_istore dX11_keep_57 (by decide) ?_
        have e9 : f_keep s c n w = (if tn w = 0 then ((kpF (sN s) c (nI m) (tn n) (m + 1)).1, s) else ((kpF (sN s) c (nI m) (tn n) (m + 1)).2.1, s)) := by rw [f_keep, if_pos hcq8, if_pos hcq15, if_pos hcq24]; unfold kpR; rw [m2, tn_nI (by omega)]
        rw [e9] at hp
        exact cl_keep D hI c n w hcq8.1 hn_n hl_n hn_w hl_w m hm10 hbt hp (m + 1) 0 _ _ _ _ (by omega) hC hF (Or.inl ⟨rfl, rfl, rfl, rfl, rfl⟩)
      · refine e_aload_n dX11_keep_27 rfl ?_
        refine e_iconst (nI (1)) dX11_keep_28 (by decide) ?_
        refine c_V1i (nc := 0) (ns := 0) (mc := 0) (ms := 0) (N := mX11_error) dX11_keep_29 lv_X11_54 mo_X11_error hC.cn (Nat.le_of_ble_eq_true rfl) (Nat.le_of_ble_eq_true rfl) (by decide) (c_error D hC 1 (by decide)) (fun h hP => ?_)
        obtain ⟨hC, hF1⟩ := hP
        have hF := hF.trans hF1
        have e9 : f_keep s c n w = er 1 (s) := by rw [f_keep, if_pos hcq8, if_pos hcq15, if_neg hcq24]
        rw [e9] at hp
        exact e_iret dX11_keep_32 rfl (hp _ ⟨hC, hF⟩)
theorem gW_s {Y : Nat → Int32} {nv k : Nat} : goW Y nv (k + 1) = goW Y nv k ||| nI 1 <<< (bI (mpW Y (goW Y nv k) nv) &&& 31) := rfl
set_option maxRecDepth 20000 in
theorem cl_check (D : En) {s : SS} (hI : INV s) {h00 : AH} {post : Option Value → AH → Prop} {h : AH} (n : Int32) (Y : Nat → Int32) (m : Nat) (hm20 : m ≤ 20) (hC : ClsS h s) (hF : FrC h00 h) (hA : LB h 46 Y) (hIA : IN Y) (hEA : E3 Y (sN s)) {fW : Nat → Int32} {zW bW : Int32} (hRW : RW h 27 20 fW zW bW) (hWe : ∀ i, i < m → fW i = sN s (232 + i)) (hp : ∀ h', (ClsS h' ((ckV (sN s) Y (nvN (sN s)) m, s)).2 ∧ FrC h00 h') → post (some (.int ((ckV (sN s) Y (nvN (sN s)) m, s)).1)) h') : ∀ (j : Nat) (k : Nat) (g : Int32), (k + j = nvN (sN s)) → (g = goW Y (nvN (sN s)) k) → (∀ i, i < k → ¬ ckP Y (sN s) (nvN (sN s)) m i = true) → Ev D 8 mX11_check 71 [some (.ref (11)), some (.int (n)), some (.int (nI (m))), some (.int (nI (nvN (sN s)))), some (.int (g)), some (.int (nI (k))), none] [] h 0 0 post := by
  have hY := hI.1.1
  have hnv := hY.2.1
  have htc10 := hY.2.2.2.1
  intro j
  induction j with
  | zero =>
    intro k g hm hg hN
    refine e_iload dX11_check_71 rfl ?_
    refine e_iload_n dX11_check_73 rfl ?_
    refine e_icmp_geN 132 dX11_check_74 (by decide) (by omega) (by omega) (fun hcq74 => ?_) (fun hcq74 => absurd hcq74 (by omega))
    refine e_iload_n dX11_check_132 rfl ?_
    refine e_iload_n dX11_check_133 rfl ?_
    refine e_icmp_leN 143 dX11_check_134 (by decide) (by omega) (by omega) (fun hcq134 => ?_) (fun hcq134 => ?_)
    · refine e_iconst (nI (0)) dX11_check_143 (by decide) ?_
      have e8 : ckV (sN s) Y (nvN (sN s)) m = nI 0 := by unfold ckV; rw [fsP_miss (nvN (sN s)) 0 (fun i a b => hN i (by omega)), Nat.zero_add, if_neg (Nat.lt_irrefl _), if_neg (by omega)]
      rw [e8] at hp
      exact e_iret dX11_check_144 rfl (hp _ ⟨hC, hF⟩)
    · refine e_iconst (nI (1)) dX11_check_137 (by decide) ?_
      refine e_iload_n dX11_check_138 rfl ?_
      refine e_iaddN dX11_check_139 ?_
      refine e_goto 144 dX11_check_140 (by decide) ?_
      have e8 : ckV (sN s) Y (nvN (sN s)) m = nI (1 + nvN (sN s)) := by unfold ckV; rw [fsP_miss (nvN (sN s)) 0 (fun i a b => hN i (by omega)), Nat.zero_add, if_neg (Nat.lt_irrefl _), if_pos (by omega)]
      rw [e8] at hp
      exact e_iret dX11_check_144 rfl (hp _ ⟨hC, hF⟩)
  | succ j ih =>
    intro k g hm hg hN
    refine e_iload dX11_check_71 rfl ?_
    refine e_iload_n dX11_check_73 rfl ?_
    refine e_icmp_geN 132 dX11_check_74 (by decide) (by omega) (by omega) (fun hcq74 => absurd hcq74 (by omega)) (fun hcq74 => ?_)
    refine e_aload_n dX11_check_77 rfl ?_
    refine e_get dX11_check_78 fl_X11_26_11 hC.1 rfl ?_
    refine e_iload dX11_check_81 rfl ?_
    refine c_V1iR (N := mX4_mostPeopled) dX11_check_83 lv_X11_328 mo_X4_mostPeopled hA.1.cn (Nat.le_of_ble_eq_true rfl) (Nat.le_of_ble_eq_true rfl) (by decide) (k_most D hA.1 hIA ((g))) ?_
    refine e_top ((bI (mpW Y g (nvN (sN s))))) (by rw [hEA.1]) ?_
    refine e_istore dX11_check_86 (by decide) ?_
    refine e_iload dX11_check_88 rfl ?_
    refine e_iload_n dX11_check_90 rfl ?_
    refine e_icmp_geN 112 dX11_check_91 (by decide) (by omega) (by omega) (fun hcq91 => ?_) (fun hcq91 => ?_)
    · refine e_iconst (nI (1)) dX11_check_112 (by decide) ?_
      refine e_iload dX11_check_113 rfl ?_
      refine e_iaddN dX11_check_115 ?_
      have e9 : ckP Y (sN s) (nvN (sN s)) m k = true := by unfold ckP; rw [decide_eq_true_iff, ← hg]; exact Or.inl hcq91
      have e8 : ckV (sN s) Y (nvN (sN s)) m = nI (1 + k) := by unfold ckV; rw [fsP_hit (P := ckP Y (sN s) (nvN (sN s)) m) (nvN (sN s)) 0 k (by omega) (by omega) (fun i a b => hN i b) e9, if_pos (by omega)]
      rw [e8] at hp
      exact e_iret dX11_check_116 rfl (hp _ ⟨hC, hF⟩)
    · refine e_aload_n dX11_check_94 rfl ?_
      refine e_get dX11_check_95 fl_X11_10_11 hC.1 rfl ?_
      refine e_get dX11_check_98 fl_X11_325_2 hC.2.1.1 rfl ?_
      refine e_get dX11_check_101 fl_X11_96_5 hRW.1 rfl ?_
      refine e_iload dX11_check_104 rfl ?_
      refine e_ild (k) ((sN s (232 + k))) dX11_check_106 hRW.2 rfl (by omega) (by decide) (hWe _ (by omega)) ?_
      refine e_iload dX11_check_107 rfl ?_
      refine e_icmp_eq 117 dX11_check_109 (by decide) (fun hcq109 => ?_) (fun hcq109 => ?_)
      · refine e_iload dX11_check_117 rfl ?_
        refine e_iconst (nI (1)) dX11_check_119 (by decide) ?_
        refine e_iload dX11_check_120 rfl ?_
        refine e_ishl dX11_check_122 ?_
        refine e_ior dX11_check_123 ?_
        refine e_istore dX11_check_124 (by decide) ?_
        refine e_iincN (k + 1) dX11_check_126 rfl (by decide) (nI_add _ _) ?_
        refine e_goto 71 dX11_check_129 (by decide) ?_
        refine Ev.drop 6 ?_
        exact ih (k + 1) _ (by omega) (by rw [gW_s, ← hg]) (fun i hi q => (Nat.lt_or_ge i k).elim (fun w => hN i w q) (fun w => by rw [show i = k by omega] at q; unfold ckP at q; rw [decide_eq_true_iff, ← hg] at q; exact q.elim (fun z => by omega) (fun z => z hcq109)))
      · refine e_iconst (nI (1)) dX11_check_112 (by decide) ?_
        refine e_iload dX11_check_113 rfl ?_
        refine e_iaddN dX11_check_115 ?_
        have e9 : ckP Y (sN s) (nvN (sN s)) m k = true := by unfold ckP; rw [decide_eq_true_iff, ← hg]; exact Or.inr hcq109
        have e8 : ckV (sN s) Y (nvN (sN s)) m = nI (1 + k) := by unfold ckV; rw [fsP_hit (P := ckP Y (sN s) (nvN (sN s)) m) (nvN (sN s)) 0 k (by omega) (by omega) (fun i a b => hN i b) e9, if_pos (by omega)]
        rw [e8] at hp
        exact e_iret dX11_check_116 rfl (hp _ ⟨hC, hF⟩)
theorem ClsS.wz {h : AH} {s : SS} (hC : ClsS h s) (hI : IN (sN s)) {fW : Nat → Int32} {z b : Int32} (hr : RW h 27 20 fW z b) : ClsS (h.set 27 (.inr (5, [.ref 28, .int (nI 0), .int b]))) (wtN s) := by
  refine hC.wait hI (FO.rf.set (Or.inl rfl)) (KL.up (by omega)) (pk_un (by omega)) (pk_un (by omega)) (fun i hi => pk_un (by omega)) ⟨fW, b, ?_, fun i hi => ?_⟩
  · rw [pk_us]; exact ⟨getself hr.1, getset hr.2 (by decide)⟩
  · have e : wlN (upd (sN s) 4 (nI 0)) = 0 := by
      show tn (upd (sN s) 4 (nI 0) 4) = 0
      rw [pk_us]; rfl
    rw [e] at hi
    omega
set_option maxRecDepth 20000 in
theorem cl_chk22 (D : En) {s : SS} (hI : INV s) {h00 : AH} {post : Option Value → AH → Prop} {h : AH} (n : Int32) (m : Nat) (hm20 : m ≤ 20) (hC : ClsS h s) (hF : FrC h00 h) {fW : Nat → Int32} {zW bW : Int32} (hRW : RW h 27 20 fW zW bW) (hWe : ∀ i, i < m → fW i = sN s (232 + i)) (hp : ∀ h', (ClsS h' ((if wi (nI 0) n (nI 40) then (ckV (sN s) (yrX (sN s) (sN s) (tn n)) (nvN (sN s)) m, s) else er 1 s)).2 ∧ FrC h00 h') → post (some (.int ((if wi (nI 0) n (nI 40) then (ckV (sN s) (yrX (sN s) (sN s) (tn n)) (nvN (sN s)) m, s) else er 1 s)).1)) h') : Ev D 8 mX11_check 22 [some (.ref (11)), some (.int (n)), some (.int (nI (m))), none, none, none, none] [] h 0 0 post := by
  have hY := hI.1.1
  have hnv := hY.2.1
  have htc10 := hY.2.2.2.1
  have hCC := hC
  refine e_iload_n dX11_check_22 rfl ?_
  refine c_S1iR (N := mX11_isAhead) dX11_check_23 ls_X11_229 mo_X11_isAhead  (Nat.le_of_ble_eq_true rfl) (Nat.le_of_ble_eq_true rfl) (by decide) (c_isA D ((n))) ?_
  refine e_if_neB 35 dX11_check_26 (by decide) (fun hcq26 => ?_) (fun hcq26 => ?_)
  · obtain ⟨hn_n, hg_n, hl_n⟩ := wiN hcq26 (by decide) (by decide)
    refine e_aload_n dX11_check_35 rfl ?_
    refine e_get dX11_check_36 fl_X11_26_11 hC.1 rfl ?_
    refine e_aload_n dX11_check_39 rfl ?_
    refine e_get dX11_check_40 fl_X11_10_11 hC.1 rfl ?_
    refine e_get dX11_check_43 fl_X11_58_2 hC.2.1.1 rfl ?_
    refine c_V1v (nc := 0) (ns := 0) (mc := 0) (ms := 0) (N := mX4_copyFrom) dX11_check_46 lv_X11_232 mo_X4_copyFrom (Shp.cn hC.a44) (Nat.le_of_ble_eq_true rfl) (Nat.le_of_ble_eq_true rfl) (by decide) (c_cpA D hC hI.1) (fun h hP => ?_)
    obtain ⟨hC, hF1, hA, hTA, hZ9⟩ := hP
    have hF := hF.trans hF1
    have hIA := hI.1
    have hEA : E3 (sN s) (sN s) := ⟨rfl, rfl, rfl⟩
    have hRW := hRW.same (hZ9.lo hCC.rb (by decide) (by decide)) (hZ9.lo hCC.rb (by decide) (by decide))
    have hCC := hC
    refine e_aload_n dX11_check_49 rfl ?_
    refine e_get dX11_check_50 fl_X11_26_11 hC.1 rfl ?_
    refine e_iload_n dX11_check_53 rfl ?_
    refine e_top (nI (tn n)) (hn_n) ?_
    refine c_V1v (nc := 0) (ns := 0) (mc := 0) (ms := 0) (N := mX4_passYears) dX11_check_54 lv_X11_226 mo_X4_passYears hA.1.cn (Nat.le_of_ble_eq_true rfl) (Nat.le_of_ble_eq_true rfl) (by decide) (c_ysA D hC hA hIA hEA (tn n) (by omega)) (fun h hP => ?_)
    obtain ⟨hC, hF1, hA, hIA, hEA, hZ9⟩ := hP
    have hF := hF.trans hF1
    have hRW := hRW.same (hZ9.lo hCC.rb (by decide) (by decide)) (hZ9.lo hCC.rb (by decide) (by decide))
    refine e_aload_n dX11_check_57 rfl ?_
    refine e_get dX11_check_58 fl_X11_26_11 hC.1 rfl ?_
    refine e_get dX11_check_61 fl_X11_61_4 hA.1.1 rfl ?_
    refine e_top (nI (nvN (yrX (sN s) (sN s) (tn n)))) hIA.1.1 ?_
    refine e_top (nI (nvN (sN s))) (by rw [hEA.1]) ?_
    refine e_istore_n dX11_check_64 (by decide) ?_
    refine e_iconst (nI (0)) dX11_check_65 (by decide) ?_
    refine e_istore dX11_check_66 (by decide) ?_
    refine e_iconst (nI (0)) dX11_check_68 (by decide) ?_
    refine e_istore dX11_check_69 (by decide) ?_
    have e8 : (if wi (nI 0) n (nI 40) then (ckV (sN s) (yrX (sN s) (sN s) (tn n)) (nvN (sN s)) m, s) else er 1 s) = (ckV (sN s) (yrX (sN s) (sN s) (tn n)) (nvN (sN s)) m, s) := if_pos hcq26
    rw [e8] at hp
    exact cl_check D hI n _ m hm20 hC hF hA hIA hEA hRW hWe hp (nvN (sN s)) 0 _ (by omega) rfl (fun i hi => by omega)
  · refine e_aload_n dX11_check_29 rfl ?_
    refine e_iconst (nI (1)) dX11_check_30 (by decide) ?_
    refine c_V1i (nc := 0) (ns := 0) (mc := 0) (ms := 0) (N := mX11_error) dX11_check_31 lv_X11_54 mo_X11_error hC.cn (Nat.le_of_ble_eq_true rfl) (Nat.le_of_ble_eq_true rfl) (by decide) (c_error D hC 1 (by decide)) (fun h hP => ?_)
    obtain ⟨hC, hF1⟩ := hP
    have hF := hF.trans hF1
    have e8 : (if wi (nI 0) n (nI 40) then (ckV (sN s) (yrX (sN s) (sN s) (tn n)) (nvN (sN s)) m, s) else er 1 s) = er 1 s := if_neg hcq26
    rw [e8] at hp
    exact e_iret dX11_check_34 rfl (hp _ ⟨hC, hF⟩)
set_option maxRecDepth 20000 in
theorem cp_check (D : En) {h : AH} {s : SS} (hI : INV s) (hC : ClsS h s) (n : Int32) : Sp D 8 mX11_check [.ref (11), .int (n)] h 0 0 (some (.int (f_check s n).1)) (fun h' => ClsS h' (f_check s n).2 ∧ FrC h h') := by
  have hY := hI.1.1
  have hnv := hY.2.1
  have htc10 := hY.2.2.2.1
  obtain ⟨h00, hh00⟩ : ∃ z, z = h := ⟨_, rfl⟩
  have hF : FrC h00 h := by rw [hh00]; exact FrC.rf
  intro post hp
  rw [← hh00] at hp
  show Ev D 8 mX11_check 0 [some (.ref (11)), some (.int (n)), none, none, none, none, none] [] h 0 0 post
  obtain ⟨fW, bW, hRW, hWe⟩ := hC.2.1.2.2.2.2
  rw [hI.1.2.2.1.1] at hRW
  have hw20 := hI.1.2.2.1.2
  refine e_aload_n dX11_check_0 rfl ?_
  refine e_get dX11_check_1 fl_X11_10_11 hC.1 rfl ?_
  refine e_get dX11_check_4 fl_X11_325_2 hC.2.1.1 rfl ?_
  refine e_get dX11_check_7 fl_X11_93_5 hRW.1 rfl ?_
  refine e_istore_n dX11_check_10 (by decide) ?_
  refine e_aload_n dX11_check_11 rfl ?_
  refine e_get dX11_check_12 fl_X11_10_11 hC.1 rfl ?_
  refine e_get dX11_check_15 fl_X11_325_2 hC.2.1.1 rfl ?_
  refine e_iconst (nI (0)) dX11_check_18 (by decide) ?_
  refine e_put dX11_check_19 fl_X11_93_5 ft_5 (fun q hq => Or.inl (by cases hq; rfl)) hRW.1 (by show _ < 3; decide) rfl rfl ?_
  have hF := hF.set (c := .inr (5, [.ref 28, .int (nI 0), .int bW])) (show 11 ≤ 27 by decide) (show 27 < 82 by decide)
  have hC := hC.wz hI.1 hRW
  have hI2 : INV (wtN s) := hI.N (IN_wl hI.1 (by decide))
  have hRW2 : RW _ 27 20 fW (nI 0) bW := ⟨getself hRW.1, getset hRW.2 (by decide)⟩
  have e9 : f_check s n = (if wi (nI 0) n (nI 40) then (ckV (sN (wtN s)) (yrX (sN (wtN s)) (sN (wtN s)) (tn n)) (nvN (sN (wtN s))) (wlN (sN s)), wtN s) else er 1 (wtN s)) := rfl
  rw [e9] at hp
  exact cl_chk22 (s := wtN s) D hI2 n (wlN (sN s)) hw20 hC hF hRW2 (fun i hi => (hWe i hi).trans (show sN s (232 + i) = upd (sN s) 4 (nI 0) (232 + i) from (pk_un (by omega)).symm)) hp
