theorem copy_step (f g : Nat → Int32) (k : Nat) : upd (fun j => if j < k then f j else g j) k (f k) = fun j => if j < k + 1 then f j else g j := by
  funext j
  unfold upd
  by_cases h : j = k
  · subst h; simp
  · rw [if_neg h]
    dsimp only
    by_cases h2 : j < k
    · rw [if_pos h2, if_pos (by omega)]
    · rw [if_neg h2, if_neg (by omega)]
theorem l_copy (D : En) {h : AH} {a b : Nat} (hab : a ≠ b) (hb11 : 11 ≤ b) {f g : Nat → Int32} (ha : h[a]? = some (.inl (0, 408, .inl f))) (hb : h[b]? = some (.inl (0, 408, .inl g))) {post : Option Value → AH → Prop} (hp : ∀ h', h' = h.set b (.inl (0, 408, .inl f)) → post none h') : ∀ (n : Nat) (k : Nat), (k + n = 408) → Ev D 0 mX12_copy 2 [some (.ref (a)), some (.ref (b)), some (.int (nI (k)))] [] (h.set b (.inl (0, 408, .inl (fun j => if j < k then f j else g j)))) 0 0 post := by
  intro n
  induction n with
  | zero =>
    intro k hm
    refine e_iload_n dX12_copy_2 rfl ?_
    refine e_sipush (nI (408)) dX12_copy_3 (by decide) ?_
    refine e_icmp_geN 21 dX12_copy_6 (by decide) (by omega) (by omega) (fun hcq6 => ?_) (fun hcq6 => absurd hcq6 (by omega))
    refine Ev.junk f (getself hb) hb11 (fun j hj => by simp [show j < k by omega]) ?_
    rw [set_set]
    exact e_vret dX12_copy_21 rfl (hp _ rfl)
  | succ n ih =>
    intro k hm
    refine e_iload_n dX12_copy_2 rfl ?_
    refine e_sipush (nI (408)) dX12_copy_3 (by decide) ?_
    refine e_icmp_geN 21 dX12_copy_6 (by decide) (by omega) (by omega) (fun hcq6 => absurd hcq6 (by omega)) (fun hcq6 => ?_)
    refine e_aload_n dX12_copy_9 rfl ?_
    refine e_iload_n dX12_copy_10 rfl ?_
    refine e_aload_n dX12_copy_11 rfl ?_
    refine e_iload_n dX12_copy_12 rfl ?_
    refine e_ild (k) ((f k)) dX12_copy_13 (getset ha (Ne.symm hab)) rfl (by omega) (by decide) rfl ?_
    refine e_ist k dX12_copy_14 (getself hb) rfl (by omega) (by decide) ?_
    rw [set_set, copy_step]
    refine e_iincN (k + 1) dX12_copy_15 rfl (by decide) (nI_add _ _) ?_
    refine e_goto 2 dX12_copy_18 (by decide) ?_
    exact ih (k + 1) (by omega)
theorem s_copy (D : En) {h : AH} {a b : Nat} (hab : a ≠ b) (hb11 : 11 ≤ b) {f g : Nat → Int32} (ha : h[a]? = some (.inl (0, 408, .inl f))) (hb : h[b]? = some (.inl (0, 408, .inl g))) : Sp D 0 mX12_copy [.ref (a), .ref (b)] h 0 0 (none) (fun h' => h' = h.set b (.inl (0, 408, .inl f))) := by
  intro post hp
  show Ev D 0 mX12_copy 0 [some (.ref (a)), some (.ref (b)), none] [] h 0 0 post
  refine e_iconst (nI (0)) dX12_copy_0 (by decide) ?_
  refine e_istore_n dX12_copy_1 (by decide) ?_
  have e9 := l_copy D hab hb11 ha hb hp 408 0 rfl
  refine Ev.junk (fun j => if j < 0 then f j else g j) hb hb11 (fun j _ => by simp) e9
def svR (N : Nat → Int32) (nv t : Nat) : Int32 := if N (112 + 7 * t + 5) = nI 1 then servedR N nv t else nI 0
def comT (G N : Nat → Int32) (nv v t : Nat) : Int32 := if (svR N nv t >>> (nI v &&& 31)) &&& nI 1 = nI 1 then G (kdN N t) else nI 0
def comfR (G N : Nat → Int32) (nv tc v : Nat) : Int32 := sumF (comT G N nv v) tc
theorem l_com2 (D : En) {N : Nat → Int32} {σ : Nat → Nat → Int32} {τ : Nat → Int32} {nv tc : Nat} (hvc : N 1 = nI nv) (hnv : nv ≤ 8) (t : Nat) (ht : t < tc) (htc10 : tc ≤ 10) (hW : TW N t) {h0 : AH} {post : Option Value → AH → Prop} (kk : ∀ h c, RefAt h N (va_up σ 5 c) τ → FrR h0 h → (∀ v, v < nv → c v = comfR (σ 4) N nv (t + 1) v) → Ev D 4 mX12_findComforts 105 [some (.ref 82), some (.int (nI t)), some (.int (svR N nv t)), some (.int (nI nv))] [] h 0 0 post) : ∀ (n : Nat) (v : Nat) (h : AH) (c : Nat → Int32), (v + n = nv) → (RefAt h N (va_up σ 5 c) τ) → (FrR h0 h) → (∀ w, w < v → c w = comfR (σ 4) N nv (t + 1) w) → (∀ w, v ≤ w → w < nv → c w = comfR (σ 4) N nv t w) → Ev D 4 mX12_findComforts 57 [some (.ref (82)), some (.int (nI (t))), some (.int (svR N nv t)), some (.int (nI (v)))] [] h 0 0 post := by
  intro n
  induction n with
  | zero =>
    intro v h c hm hR hF h1 h2
    have hk9 := hW.2.1
    have hv9 : nv = v := by omega
    subst hv9
    refine e_iload_n dX12_findComforts_57 rfl ?_
    refine e_aload_n dX12_findComforts_58 rfl ?_
    refine e_get dX12_findComforts_59 fl_X12_9_12 hR.1 rfl ?_
    refine e_iconst (nI (1)) dX12_findComforts_62 (by decide) ?_
    refine e_ild (1) (nI (nv)) dX12_findComforts_63 hR.2.1 rfl (by omega) (by decide) hvc ?_
    refine e_icmp_geN 105 dX12_findComforts_64 (by decide) (by omega) (by omega) (fun hcq64 => ?_) (fun hcq64 => absurd hcq64 (by omega))
    exact kk h c hR hF (fun w hw => h1 w (by omega))
  | succ n ih =>
    intro v h c hm hR hF h1 h2
    have hk9 := hW.2.1
    refine e_iload_n dX12_findComforts_57 rfl ?_
    refine e_aload_n dX12_findComforts_58 rfl ?_
    refine e_get dX12_findComforts_59 fl_X12_9_12 hR.1 rfl ?_
    refine e_iconst (nI (1)) dX12_findComforts_62 (by decide) ?_
    refine e_ild (1) (nI (nv)) dX12_findComforts_63 hR.2.1 rfl (by omega) (by decide) hvc ?_
    refine e_icmp_geN 105 dX12_findComforts_64 (by decide) (by omega) (by omega) (fun hcq64 => absurd hcq64 (by omega)) (fun hcq64 => ?_)
    refine e_aload_n dX12_findComforts_67 rfl ?_
    refine e_get dX12_findComforts_68 fl_X12_25_12 hR.1 rfl ?_
    refine e_iload_n dX12_findComforts_71 rfl ?_
    refine e_dup2 dX12_findComforts_72 rfl rfl ?_
    refine e_ild (v) ((c (v))) dX12_findComforts_73 (hR.2.2.1 5 (by decide) (by decide) (by decide)) rfl (by show _ < 8; omega) (by decide) (by rw [va_upS]) ?_
    refine e_iload_n dX12_findComforts_74 rfl ?_
    refine e_iload_n dX12_findComforts_75 rfl ?_
    refine c_S2iR (N := mX12_has) dX12_findComforts_76 ls_X12_161 mo_X12_has  (Nat.le_of_ble_eq_true rfl) (Nat.le_of_ble_eq_true rfl) (by decide) (s_has D ((svR N nv t)) (nI (v))) ?_
    have K1 : Ev D 4 mX12_findComforts 97 [some (.ref (82)), some (.int (nI (t))), some (.int (svR N nv t)), some (.int (nI (v)))] [.int (comT (σ 4) N nv v t), .int (c (v)), .int (nI (v)), .ref (88)] h 0 0 post := by
      refine e_iadd dX12_findComforts_97 ?_
      refine r_st 5 (v) dX12_findComforts_98 hR hF rfl (by decide) rfl (by show _ < 8; omega) (fun h hR hF => ?_)
      rw [bx_uu, va_upS] at hR
      refine e_iincN (v + 1) dX12_findComforts_99 rfl (by decide) (nI_add _ _) ?_
      refine e_goto 57 dX12_findComforts_102 (by decide) ?_
      exact ih (v + 1) h (upd c v (c v + comT (σ 4) N nv v t)) (by omega) hR hF (fun w hw => by
        by_cases e : w = v
        · subst e; rw [pk_us, h2 w (Nat.le_refl _) (by omega)]; rfl
        · rw [pk_un e]; exact h1 w (by omega)) (fun w hw1 hw2 => by rw [pk_un (by omega)]; exact h2 w (by omega) hw2)
    refine e_if_eqB 96 dX12_findComforts_79 (by decide) (fun hcq79 => ?_) (fun hcq79 => ?_)
    · refine e_iconst (nI (0)) dX12_findComforts_96 (by decide) ?_
      exact e_top ((comT (σ 4) N nv v t)) (by unfold comT; first | rw [if_pos (by assumption)] | rw [if_neg (by assumption)]) K1
    · refine e_aload_n dX12_findComforts_82 rfl ?_
      refine e_get dX12_findComforts_83 fl_X12_22_12 hR.1 rfl ?_
      refine e_aload_n dX12_findComforts_86 rfl ?_
      refine e_iload_n dX12_findComforts_87 rfl ?_
      refine e_iconst (nI (0)) dX12_findComforts_88 (by decide) ?_
      refine c_V2iR (N := mX12_thing) dX12_findComforts_89 lv_X12_136 mo_X12_thing hR.cn (Nat.le_of_ble_eq_true rfl) (Nat.le_of_ble_eq_true rfl) (by decide) (s_thing D hR (t) (0) (by omega) (by omega)) ?_
      refine e_top (nI (kdN N t)) (hW.1) ?_
      refine e_ild (kdN N t) ((σ 4 (kdN N t))) dX12_findComforts_92 (hR.2.2.1 4 (by decide) (by decide) (by decide)) rfl (by show _ < 7; omega) (by decide) (by rw [va_upN _ _ (by decide)]) ?_
      refine e_goto 97 dX12_findComforts_93 (by decide) ?_
      exact e_top ((comT (σ 4) N nv v t)) (by unfold comT; first | rw [if_pos (by assumption)] | rw [if_neg (by assumption)]) K1
theorem l_com1 (D : En) {N : Nat → Int32} {σ : Nat → Nat → Int32} {τ : Nat → Int32} {nv tc : Nat} (hvc : N 1 = nI nv) (hnv : nv ≤ 8) (htc : N 2 = nI tc) (htc10 : tc ≤ 10) (hT : ∀ t, t < tc → TW N t) {h0 : AH} {post : Option Value → AH → Prop} (hp : ∀ h' c, RefAt h' N (va_up σ 5 c) τ → FrR h0 h' → (∀ v, v < nv → c v = comfR (σ 4) N nv tc v) → post none h') : ∀ (n : Nat) (t : Nat) (h : AH) (c : Nat → Int32), (t + n = tc) → (RefAt h N (va_up σ 5 c) τ) → (FrR h0 h) → (∀ v, v < nv → c v = comfR (σ 4) N nv t v) → Ev D 4 mX12_findComforts 27 [some (.ref (82)), some (.int (nI (t))), none, none] [] h 0 0 post := by
  intro n
  induction n with
  | zero =>
    intro t h c hm hR hF hc
    refine e_iload_n dX12_findComforts_27 rfl ?_
    refine e_aload_n dX12_findComforts_28 rfl ?_
    refine e_get dX12_findComforts_29 fl_X12_9_12 hR.1 rfl ?_
    refine e_iconst (nI (2)) dX12_findComforts_32 (by decide) ?_
    refine e_ild (2) (nI (tc)) dX12_findComforts_33 hR.2.1 rfl (by omega) (by decide) htc ?_
    refine e_icmp_geN 111 dX12_findComforts_34 (by decide) (by omega) (by omega) (fun hcq34 => ?_) (fun hcq34 => absurd hcq34 (by omega))
    exact e_vret dX12_findComforts_111 rfl (hp h c hR hF (by rw [show tc = t by omega]; exact hc))
  | succ n ih =>
    intro t h c hm hR hF hc
    refine e_iload_n dX12_findComforts_27 rfl ?_
    refine e_aload_n dX12_findComforts_28 rfl ?_
    refine e_get dX12_findComforts_29 fl_X12_9_12 hR.1 rfl ?_
    refine e_iconst (nI (2)) dX12_findComforts_32 (by decide) ?_
    refine e_ild (2) (nI (tc)) dX12_findComforts_33 hR.2.1 rfl (by omega) (by decide) htc ?_
    refine e_icmp_geN 111 dX12_findComforts_34 (by decide) (by omega) (by omega) (fun hcq34 => absurd hcq34 (by omega)) (fun hcq34 => ?_)
    refine e_aload_n dX12_findComforts_37 rfl ?_
    refine e_iload_n dX12_findComforts_38 rfl ?_
    refine c_V1iR (N := mX12_isOpen) dX12_findComforts_39 lv_X12_158 mo_X12_isOpen hR.cn (Nat.le_of_ble_eq_true rfl) (Nat.le_of_ble_eq_true rfl) (by decide) (s_isOpen D hR (t) (by omega)) ?_
    have K1 : Ev D 4 mX12_findComforts 54 [some (.ref (82)), some (.int (nI (t))), none, none] [.int (svR N nv t)] h 0 0 post := by
      refine e_istore_n dX12_findComforts_54 (by decide) ?_
      refine e_iconst (nI (0)) dX12_findComforts_55 (by decide) ?_
      refine e_istore_n dX12_findComforts_56 (by decide) ?_
      refine l_com2 D hvc hnv t (by omega) htc10 (hT t (by omega)) (h0 := h0) (fun h c hR hF hc => ?_) nv 0 h c (by omega) hR hF (fun w hw => absurd hw (by omega)) (fun w _ hw => hc w hw)
      refine e_iincN (t + 1) dX12_findComforts_105 rfl (by decide) (nI_add _ _) ?_
      refine e_goto 27 dX12_findComforts_108 (by decide) ?_
      refine Ev.drop 2 (Ev.drop 3 ?_)
      exact ih (t + 1) h c (by omega) hR hF hc
    refine e_if_eqB 53 dX12_findComforts_42 (by decide) (fun hcq42 => ?_) (fun hcq42 => ?_)
    · refine e_iconst (nI (0)) dX12_findComforts_53 (by decide) ?_
      exact e_top ((svR N nv t)) (by unfold svR; first | rw [if_pos (by assumption)] | rw [if_neg (by assumption)]) K1
    · refine e_aload_n dX12_findComforts_45 rfl ?_
      refine e_iload_n dX12_findComforts_46 rfl ?_
      refine c_V1iR (N := mX12_servedBy) dX12_findComforts_47 lv_X12_151 mo_X12_servedBy hR.cn (Nat.le_of_ble_eq_true rfl) (Nat.le_of_ble_eq_true rfl) (by decide) (s_servedBy D hR hvc hnv (t) (by omega) (hT _ (by omega))) ?_
      refine e_goto 54 dX12_findComforts_50 (by decide) ?_
      exact e_top ((svR N nv t)) (by unfold svR; first | rw [if_pos (by assumption)] | rw [if_neg (by assumption)]) K1
theorem l_com0 (D : En) {N : Nat → Int32} {σ : Nat → Nat → Int32} {τ : Nat → Int32} {nv tc : Nat} (hvc : N 1 = nI nv) (hnv : nv ≤ 8) (htc : N 2 = nI tc) (htc10 : tc ≤ 10) (hT : ∀ t, t < tc → TW N t) {h0 : AH} {post : Option Value → AH → Prop} (hp : ∀ h' c, RefAt h' N (va_up σ 5 c) τ → FrR h0 h' → (∀ v, v < nv → c v = comfR (σ 4) N nv tc v) → post none h') : ∀ (n : Nat) (v : Nat) (h : AH) (c : Nat → Int32), (v + n = nv) → (RefAt h N (va_up σ 5 c) τ) → (FrR h0 h) → (∀ w, w < v → c w = comfR (σ 4) N nv 0 w) → Ev D 4 mX12_findComforts 2 [some (.ref (82)), some (.int (nI (v))), none, none] [] h 0 0 post := by
  intro n
  induction n with
  | zero =>
    intro v h c hm hR hF hc
    refine e_iload_n dX12_findComforts_2 rfl ?_
    refine e_aload_n dX12_findComforts_3 rfl ?_
    refine e_get dX12_findComforts_4 fl_X12_9_12 hR.1 rfl ?_
    refine e_iconst (nI (1)) dX12_findComforts_7 (by decide) ?_
    refine e_ild (1) (nI (nv)) dX12_findComforts_8 hR.2.1 rfl (by omega) (by decide) hvc ?_
    refine e_icmp_geN 25 dX12_findComforts_9 (by decide) (by omega) (by omega) (fun hcq9 => ?_) (fun hcq9 => absurd hcq9 (by omega))
    refine e_iconst (nI (0)) dX12_findComforts_25 (by decide) ?_
    refine e_istore_n dX12_findComforts_26 (by decide) ?_
    exact l_com1 D hvc hnv htc htc10 hT hp tc 0 h c (by omega) hR hF (fun w hw => hc w (by omega))
  | succ n ih =>
    intro v h c hm hR hF hc
    refine e_iload_n dX12_findComforts_2 rfl ?_
    refine e_aload_n dX12_findComforts_3 rfl ?_
    refine e_get dX12_findComforts_4 fl_X12_9_12 hR.1 rfl ?_
    refine e_iconst (nI (1)) dX12_findComforts_7 (by decide) ?_
    refine e_ild (1) (nI (nv)) dX12_findComforts_8 hR.2.1 rfl (by omega) (by decide) hvc ?_
    refine e_icmp_geN 25 dX12_findComforts_9 (by decide) (by omega) (by omega) (fun hcq9 => absurd hcq9 (by omega)) (fun hcq9 => ?_)
    refine e_aload_n dX12_findComforts_12 rfl ?_
    refine e_get dX12_findComforts_13 fl_X12_25_12 hR.1 rfl ?_
    refine e_iload_n dX12_findComforts_16 rfl ?_
    refine e_iconst (nI (0)) dX12_findComforts_17 (by decide) ?_
    refine r_st 5 (v) dX12_findComforts_18 hR hF rfl (by decide) rfl (by show _ < 8; omega) (fun h hR hF => ?_)
    rw [bx_uu, va_upS] at hR
    refine e_iincN (v + 1) dX12_findComforts_19 rfl (by decide) (nI_add _ _) ?_
    refine e_goto 2 dX12_findComforts_22 (by decide) ?_
    exact ih (v + 1) h (upd c v (nI 0)) (by omega) hR hF (fun w hw => by
      by_cases e : w = v
      · subst e; rw [pk_us]; rfl
      · rw [pk_un e]; exact hc w (by omega))
theorem upSelf {α : Type} (σ : Nat → α) (i : Nat) : va_up σ i (σ i) = σ := by
  funext j
  unfold va_up
  split
  · rename_i h; rw [h]
  · rfl
theorem s_findComforts (D : En) {h : AH} {N : Nat → Int32} {σ : Nat → Nat → Int32} {τ : Nat → Int32} (hR : RefAt h N σ τ) {nv tc : Nat} (hvc : N 1 = nI nv) (hnv : nv ≤ 8) (htc : N 2 = nI tc) (htc10 : tc ≤ 10) (hT : ∀ t, t < tc → TW N t) : Sp D 4 mX12_findComforts [.ref (82)] h 0 0 (none) (fun h' => ∃ c, RefAt h' N (va_up σ 5 c) τ ∧ FrR h h' ∧ ∀ v, v < nv → c v = comfR (σ 4) N nv tc v) := by
  intro post hp
  show Ev D 4 mX12_findComforts 0 [some (.ref (82)), none, none, none] [] h 0 0 post
  refine e_iconst (nI (0)) dX12_findComforts_0 (by decide) ?_
  refine e_istore_n dX12_findComforts_1 (by decide) ?_
  exact l_com0 D hvc hnv htc htc10 hT (h0 := h) (fun h' c a b e => hp h' ⟨c, a, b, e⟩) nv 0 h (σ 5) (by omega) (by rw [upSelf]; exact hR) FrR.rf (fun w hw => absurd hw (by omega))
/-- the first of the most of 0 .. n-1 -/
def havW (c : Nat → Int32) : Nat → Nat
  | 0 => 0
  | n + 1 => if n = 0 then 0 else if c (havW c n) < c n then n else havW c n
theorem havW_lt (c : Nat → Int32) (n : Nat) (hn : 0 < n) : havW c n < n := by
  induction n with
  | zero => omega
  | succ n ih =>
    rw [havW]
    split
    · omega
    · split
      · omega
      · have := ih (by omega); omega
theorem l_haven (D : En) {h : AH} {N : Nat → Int32} {σ : Nat → Nat → Int32} {τ : Nat → Int32} (hR : RefAt h N σ τ) {nv : Nat} (hvc : N 1 = nI nv) (hnv : nv ≤ 8) {post : Option Value → AH → Prop} (hp : ∀ h', h' = h → post (some (.int (nI (havW (σ 5) nv)))) h') : ∀ (n : Nat) (v b : Nat), (v + n = (if nv = 0 then 1 else nv)) → (1 ≤ v) → (b = havW (σ 5) v) → Ev D 0 mX12_havenOf 4 [some (.ref (82)), some (.int (nI (b))), some (.int (nI (v)))] [] h 0 0 post := by
  intro n
  induction n with
  | zero =>
    intro v b hm hv1 hb
    have hb8 : nv ≤ v ∧ v ≤ 8 := by split at hm <;> omega
    refine e_iload_n dX12_havenOf_4 rfl ?_
    refine e_aload_n dX12_havenOf_5 rfl ?_
    refine e_get dX12_havenOf_6 fl_X12_9_12 hR.1 rfl ?_
    refine e_iconst (nI (1)) dX12_havenOf_9 (by decide) ?_
    refine e_ild (1) (nI (nv)) dX12_havenOf_10 hR.2.1 rfl (by omega) (by decide) hvc ?_
    refine e_icmp_geN 41 dX12_havenOf_11 (by decide) (by omega) (by omega) (fun hcq11 => ?_) (fun hcq11 => absurd hcq11 (by omega))
    refine e_iload_n dX12_havenOf_41 rfl ?_
    exact e_iret dX12_havenOf_42 rfl (by have e9 := hp _ rfl; rw [hb, show v = (if nv = 0 then 1 else nv) from hm]; by_cases z : nv = 0; (rw [if_pos z]; rw [z] at e9; exact e9); (rw [if_neg z]; exact e9))
  | succ n ih =>
    intro v b hm hv1 hb
    have hv8 : v < nv := by split at hm <;> omega
    have hn9 : nv ≠ 0 := by omega
    rw [if_neg hn9] at hm ih
    have hb8 : b < 8 := by have := havW_lt (σ 5) v (by omega); omega
    refine e_iload_n dX12_havenOf_4 rfl ?_
    refine e_aload_n dX12_havenOf_5 rfl ?_
    refine e_get dX12_havenOf_6 fl_X12_9_12 hR.1 rfl ?_
    refine e_iconst (nI (1)) dX12_havenOf_9 (by decide) ?_
    refine e_ild (1) (nI (nv)) dX12_havenOf_10 hR.2.1 rfl (by omega) (by decide) hvc ?_
    refine e_icmp_geN 41 dX12_havenOf_11 (by decide) (by omega) (by omega) (fun hcq11 => absurd hcq11 (by omega)) (fun hcq11 => ?_)
    refine e_aload_n dX12_havenOf_14 rfl ?_
    refine e_get dX12_havenOf_15 fl_X12_25_12 hR.1 rfl ?_
    refine e_iload_n dX12_havenOf_18 rfl ?_
    refine e_ild (v) ((σ 5 (v))) dX12_havenOf_19 (hR.2.2.1 5 (by decide) (by decide) (by decide)) rfl (by show _ < 8; omega) (by decide) rfl ?_
    refine e_aload_n dX12_havenOf_20 rfl ?_
    refine e_get dX12_havenOf_21 fl_X12_25_12 hR.1 rfl ?_
    refine e_iload_n dX12_havenOf_24 rfl ?_
    refine e_ild (b) ((σ 5 (b))) dX12_havenOf_25 (hR.2.2.1 5 (by decide) (by decide) (by decide)) rfl (by show _ < 8; omega) (by decide) rfl ?_
    have K1 : Ev D 0 mX12_havenOf 34 [some (.ref (82)), some (.int (nI (b))), some (.int (nI (v)))] [.int (nI (if σ 5 b < σ 5 v then v else b))] h 0 0 post := by
      refine e_istore_n dX12_havenOf_34 (by decide) ?_
      refine e_iincN (v + 1) dX12_havenOf_35 rfl (by decide) (nI_add _ _) ?_
      refine e_goto 4 dX12_havenOf_38 (by decide) ?_
      exact ih (v + 1) (if σ 5 b < σ 5 v then v else b) (by omega) (by omega) (by rw [havW, if_neg (show ¬ v = 0 by omega), ← hb])
    refine e_icmp_le 33 dX12_havenOf_26 (by decide) (fun hcq26 => ?_) (fun hcq26 => ?_)
    · refine e_iload_n dX12_havenOf_33 rfl ?_
      exact e_top (nI (if σ 5 b < σ 5 v then v else b)) (by first | rw [if_pos (Int32.not_le.mp hcq26)] | rw [if_neg (Int32.not_lt.mpr hcq26)]) K1
    · refine e_iload_n dX12_havenOf_29 rfl ?_
      refine e_goto 34 dX12_havenOf_30 (by decide) ?_
      exact e_top (nI (if σ 5 b < σ 5 v then v else b)) (by first | rw [if_pos (Int32.not_le.mp hcq26)] | rw [if_neg (Int32.not_lt.mpr hcq26)]) K1
theorem s_havenOf (D : En) {h : AH} {N : Nat → Int32} {σ : Nat → Nat → Int32} {τ : Nat → Int32} (hR : RefAt h N σ τ) {nv : Nat} (hvc : N 1 = nI nv) (hnv : nv ≤ 8) : Sp D 0 mX12_havenOf [.ref (82)] h 0 0 (some (.int (nI (havW (σ 5) nv)))) (fun h' => h' = h) := by
  intro post hp
  show Ev D 0 mX12_havenOf 0 [some (.ref (82)), none, none] [] h 0 0 post
  refine e_iconst (nI (0)) dX12_havenOf_0 (by decide) ?_
  refine e_istore_n dX12_havenOf_1 (by decide) ?_
  refine e_iconst (nI (1)) dX12_havenOf_2 (by decide) ?_
  refine e_istore_n dX12_havenOf_3 (by decide) ?_
  exact l_haven D hR hvc hnv hp ((if nv = 0 then 1 else nv) - 1) 1 0 (by split <;> omega) (Nat.le_refl _) rfl
