theorem kpC_m (N : Nat → Int32) : ∀ t, t ≤ 10 → ∃ m, m < 2 ^ t ∧ (kpC N t).1 = nI m ∧ bcN m 10 = (kpC N t).2 := by
  intro t
  induction t with
  | zero => exact fun _ => ⟨0, by decide, rfl, rfl⟩
  | succ t ih =>
    intro ht
    obtain ⟨m, h1, h2, h3⟩ := ih (by omega)
    rw [kpC]
    split
    · obtain ⟨q1, q2⟩ := bc_or t (by omega) m h1
      exact ⟨m + 2 ^ t, by rw [Nat.pow_succ]; omega, by rw [h2]; exact q1, by rw [q2, h3]⟩
    · exact ⟨m, by rw [Nat.pow_succ]; omega, by rw [or_0]; exact h2, h3⟩
theorem kpC_le (N : Nat → Int32) : ∀ t, (kpC N t).2 ≤ 6 := by
  intro t
  induction t with
  | zero => exact Nat.zero_le _
  | succ t ih =>
    rw [kpC]
    split
    · rename_i q
      exact q.2
    · exact ih
theorem kpC_st (N : Nat → Int32) {t : Nat} (h : 6 ≤ (kpC N t).2) : ∀ k, (kpC N (t + k)).1 = (kpC N t).1 ∧ 6 ≤ (kpC N (t + k)).2 := by
  intro k
  induction k with
  | zero => exact ⟨rfl, h⟩
  | succ k ih =>
    rw [← Nat.add_assoc, kpC, if_neg (fun z => absurd z.2 (by omega))]
    exact ⟨by rw [or_0]; exact ih.1, ih.2⟩
theorem op_and {N : Nat → Int32} {t : Nat} (htc : tcN N ≤ 10) (ht : t < tcN N) : opB N &&& nI 1 <<< (nI t &&& 31) = if N (112 + 7 * t + 5) = nI 1 then nI 1 <<< (nI t &&& 31) else nI 0 := by
  apply bt_ext
  intro i hi
  rw [bt_and, bt_op htc i hi, bt_sh1 t (by omega) i hi]
  by_cases e : i = t
  · subst e
    by_cases q : N (112 + 7 * i + 5) = nI 1
    · rw [if_pos q, bt_sh1 i (by omega) i hi, decide_eq_true ⟨ht, q⟩, decide_eq_true rfl]; rfl
    · rw [if_neg q, bt_0 i hi, decide_eq_false (fun z => q z.2)]; rfl
  · rw [decide_eq_false e, Bool.and_false]
    by_cases q : N (112 + 7 * t + 5) = nI 1
    · rw [if_pos q, bt_sh1 t (by omega) i hi, decide_eq_false e]
    · rw [if_neg q, bt_0 i hi]
set_option maxRecDepth 20000 in
theorem kl_first (D : En) {h : AH} {a : Nat} {N : Nat → Int32} (hL : LandAt h a N) (hI : IN N) {post : Option Value → AH → Prop} (hp : ∀ h', h' = h → post (some (.int (kpC N (tcN N)).1)) h') : ∀ (j i : Nat) (f : Int32), i + j = tcN N → f = (kpC N i).1 → Ev D 1 mX4_firstOpen 4 [some (.ref a), some (.int (nI 6)), some (.int f), some (.int (nI i))] [] h 0 0 post := by
  have htc10 := hI.1.2.2.2.1
  intro j
  induction j with
  | zero =>
    intro i f hm hf
    refine e_iload_n dX4_firstOpen_4 rfl ?_
    refine e_aload_n dX4_firstOpen_5 rfl ?_
    refine e_get dX4_firstOpen_6 fl_X4_21_4 hL.1 rfl ?_
    refine e_top (nI (tcN N)) hI.1.2.2.1 ?_
    refine e_icmp_geN 37 dX4_firstOpen_9 (by decide) (by omega) (by omega) (fun hc => ?_) (fun hc => absurd hc (by omega))
    refine e_iload_n dX4_firstOpen_37 rfl ?_
    refine e_top (kpC N (tcN N)).1 (by rw [hf, show i = tcN N by omega]) ?_
    exact e_iret dX4_firstOpen_38 rfl (hp _ rfl)
  | succ j ih =>
    intro i f hm hf
    have hle := kpC_le N i
    obtain ⟨m, m1, m2, m3⟩ := kpC_m N i (by omega)
    have m4 : m < 1024 := Nat.lt_of_lt_of_le m1 (Nat.pow_le_pow_right (by decide) (show i ≤ 10 by omega))
    refine e_iload_n dX4_firstOpen_4 rfl ?_
    refine e_aload_n dX4_firstOpen_5 rfl ?_
    refine e_get dX4_firstOpen_6 fl_X4_21_4 hL.1 rfl ?_
    refine e_top (nI (tcN N)) hI.1.2.2.1 ?_
    refine e_icmp_geN 37 dX4_firstOpen_9 (by decide) (by omega) (by omega) (fun hc => absurd hc (by omega)) (fun hc => ?_)
    refine e_iload_n dX4_firstOpen_12 rfl ?_
    refine c_S1iR (N := mJ6_bitCount_0f7a4) dX4_firstOpen_13 ls_X4_118 mo_J6_bitCount_0f7a4 (Nat.le_of_ble_eq_true rfl) (Nat.le_of_ble_eq_true rfl) (by decide) (k_bits D f) ?_
    refine e_top (nI (kpC N i).2) (by rw [hf, m2, bc_ok m m4, m3]) ?_
    refine e_iload_n dX4_firstOpen_16 rfl ?_
    refine e_icmp_geN 37 dX4_firstOpen_17 (by decide) (by omega) (by omega) (fun hz => ?_) (fun hz => ?_)
    · refine e_iload_n dX4_firstOpen_37 rfl ?_
      refine e_top (kpC N (tcN N)).1 (by rw [hf, ← (kpC_st N hz (j + 1)).1, hm]) ?_
      exact e_iret dX4_firstOpen_38 rfl (hp _ rfl)
    · refine e_iload_n dX4_firstOpen_20 rfl ?_
      refine e_aload_n dX4_firstOpen_21 rfl ?_
      refine e_get dX4_firstOpen_22 fl_X4_24_4 hL.1 rfl ?_
      refine e_iconst (nI 1) dX4_firstOpen_25 (by decide) ?_
      refine e_iload_n dX4_firstOpen_26 rfl ?_
      refine e_ishl dX4_firstOpen_27 ?_
      refine e_iand dX4_firstOpen_28 ?_
      refine e_ior dX4_firstOpen_29 ?_
      refine e_istore_n dX4_firstOpen_30 (by decide) ?_
      refine e_iincN (i + 1) dX4_firstOpen_31 rfl (by decide) (nI_add _ _) ?_
      refine e_goto 4 dX4_firstOpen_34 (by decide) ?_
      refine ih (i + 1) _ (by omega) ?_
      rw [op_and htc10 (by omega), kpC, hf]
      by_cases q : N (112 + 7 * i + 5) = nI 1
      · rw [if_pos q, if_pos ⟨q, hz⟩]
      · rw [if_neg q, if_neg (fun z => q z.1)]
theorem k_first (D : En) {h : AH} {a : Nat} {N : Nat → Int32} (hL : LandAt h a N) (hI : IN N) : Sp D 1 mX4_firstOpen [.ref a, .int (nI 6)] h 0 0 (some (.int (kpC N (tcN N)).1)) (fun h' => h' = h) := by
  intro post hp
  show Ev D 1 mX4_firstOpen 0 [some (.ref a), some (.int (nI 6)), none, none] [] h 0 0 post
  refine e_iconst (nI (0)) dX4_firstOpen_0 (by decide) ?_
  refine e_istore_n dX4_firstOpen_1 (by decide) ?_
  refine e_iconst (nI (0)) dX4_firstOpen_2 (by decide) ?_
  refine e_istore_n dX4_firstOpen_3 (by decide) ?_
  exact kl_first D hL hI hp (tcN N) 0 _ (by omega) rfl
