theorem e_aas {D : En} {d : Nat} {M : Mt} {pc : Nat} {ls : List (Option Value)} {st : List Value} {h : AH} {nc ns : Nat} {post : Option Value → AH → Prop} {a t n y : Nat} {f : Nat → Option Nat} {i : Int32} (k : Nat) (hd : decode M.2.1 pc = .ok (.aastore, 1)) (hc : h[a]? = some (.inl (t, n, .inr (.inr (.inr (.inr f)))))) (ht : t = 1 ∨ t = 2 ∨ t = 3 ∨ t = 4) (hy : ASh h t y) (hi : i = nI k) (hk : k < n) (hn : n < 2 ^ 31) (kk : ∀ f' : Nat → Option Nat, f' k = some y → (∀ j, j ≠ k → f' j = f j) → Ev D d M (pc + 1) ls st (h.set a (.inl (t, n, .inr (.inr (.inr (.inr f')))))) nc ns post) : Ev D d M pc ls (.ref y :: .int i :: .ref a :: st) h nc ns post := by
  subst hi
  have hz : (nI k).toNatClampNeg = k := nI_clamp (by omega)
  refine e_aastore hd hc ht hy (nI_in hk hn) ?_
  rw [hz]
  exact kk _ (if_pos rfl) (fun j hj => if_neg hj)
theorem u_setOpen1 (D : En) {h : AH} {a : Nat} {N : Nat → Int32} (hLo : h[a]? = some (.inr (4, lnF a N))) (t : Nat) : Sp D 0 mX4_setOpen [.ref a, .int (nI t), .int (nI 1)] h 0 0 none (fun h' => h' = h.set a (.inr (4, (lnF a N).set 4 (.int (opB N ||| nI 1 <<< (nI t &&& 31)))))) := by
  intro post hp
  show Ev D 0 mX4_setOpen 0 [some (.ref (a)), some (.int (nI (t))), some (.int (nI (1)))] [] h 0 0 post
  refine e_aload_n dX4_setOpen_0 rfl ?_
  refine e_iload_n dX4_setOpen_1 rfl ?_
  refine e_if_eqN 16 dX4_setOpen_2 (by decide) (by omega) (fun hcq2 => absurd hcq2 (by decide)) (fun hcq2 => ?_)
  refine e_aload_n dX4_setOpen_5 rfl ?_
  refine e_get dX4_setOpen_6 fl_X4_24_4 hLo rfl ?_
  refine e_iconst (nI (1)) dX4_setOpen_9 (by decide) ?_
  refine e_iload_n dX4_setOpen_10 rfl ?_
  refine e_ishl dX4_setOpen_11 ?_
  refine e_ior dX4_setOpen_12 ?_
  refine e_goto 26 dX4_setOpen_13 (by decide) ?_
  refine e_put dX4_setOpen_26 fl_X4_24_4 ft_4 (fun q hq => Or.inl (by cases hq; rfl)) hLo (by show _ < 16; decide) rfl rfl ?_
  exact e_vret dX4_setOpen_29 rfl (hp _ rfl)
/-- N' is N with one THING more -/
def AT (N N' : Nat → Int32) (t : Nat) : Prop := (∀ j, j ≠ 2 → (j < 112 + 7 * t ∨ 112 + 7 * t + 7 ≤ j) → N' j = N j) ∧ N' 2 = nI (t + 1) ∧ N' (112 + 7 * t + 5) = nI 1 ∧ N' (112 + 7 * t + 6) = -1
theorem AT_stand {N : Nat → Int32} {t : Nat} {k a c l r : Int32} : AT N (standR N t k a c l r) t := by
  unfold standR
  refine ⟨fun j h2 hj => ?_, pk_us, ?_, ?_⟩
  · rw [pk_un (by omega), pk_un (by omega), pk_un (by omega), pk_un (by omega), pk_un (by omega), pk_un (by omega), pk_un (by omega), pk_un (by omega)]
  · rw [pk_un (by omega), pk_un (by omega), pk_us]
  · rw [pk_un (by omega), pk_us]
theorem AT.tc {N N' : Nat → Int32} {t : Nat} (h : AT N N' t) (ht : t < 10) : tcN N' = t + 1 := by unfold tcN; rw [h.2.1]; exact tn_nI (by omega)
theorem AT.op {N N' : Nat → Int32} {t : Nat} (h : AT N N' t) (ht : t < 10) (htc : tcN N = t) : opB N' = opB N ||| nI 1 <<< (nI t &&& 31) := by
  apply bt_ext
  intro i hi
  rw [bt_or, bt_op (by rw [h.tc ht]; omega) i hi, bt_op (by omega) i hi, bt_sh1 t (by omega) i hi, h.tc ht, htc]
  by_cases e : i = t
  · subst e
    rw [decide_eq_true ⟨Nat.lt_succ_self _, h.2.2.1⟩, decide_eq_true rfl, Bool.or_true]
  · rw [decide_eq_false e, Bool.or_false]
    by_cases e2 : i < t
    · rw [h.1 _ (by omega) (by omega), decide_eq_decide]
      exact ⟨fun z => ⟨e2, z.2⟩, fun z => ⟨by omega, z.2⟩⟩
    · rw [decide_eq_false (fun z => absurd z.1 (by omega)), decide_eq_false (fun z => absurd z.1 e2)]
theorem LandAt.th {h h' : AH} {a b : Nat} {N N' : Nat → Int32} {t : Nat} (hL : LandAt h a N) (htc : tcN N = t) (ht : t < 10) (hK : AT N N' t) (ha : a + 11 < 101) (hb : ThingAt h b t N') (k0 : h'[a]? = some (.inr (4, lnF a N'))) {T4 T : Nat → Option Nat} (hr : h[a + 4]? = some (.inl (1, 10, .inr (.inr (.inr (.inr T4)))))) (k4 : h'[a + 4]? = some (.inl (1, 10, .inr (.inr (.inr (.inr T)))))) (t1 : T t = some b) (t2 : ∀ j, j ≠ t → T j = T4 j) {f5 : Nat → Int32} (hr5 : Row0 h (a + 5) 10 f5) (k5 : Row0 h' (a + 5) 10 (upd f5 t (-1))) {g7 : Nat → Int32} (hr7' : Row0 h (a + 7) 10 g7) (k7 : Row0 h' (a + 7) 10 (upd g7 t (G0 (kdN N' t)))) (hU : ∀ x, x ≠ a → x ≠ a + 4 → x ≠ a + 5 → x ≠ a + 7 → h'[x]? = h[x]?) : LandU h' a N' := by
  obtain ⟨hLo, ⟨f1, hr1, he1⟩, ⟨f2, hr2, he2⟩, ⟨f3, hr3, he3⟩, ⟨T9, hr4, he4⟩, ⟨f9', hr5', he5⟩, ⟨f6, hr6, -⟩, ⟨f7, hr7, he7⟩, ⟨R8, hr8, he8⟩, ⟨f9, hr9⟩, ⟨f10, hr10⟩, ⟨fG, hrG, heG⟩⟩ := hL
  obtain rfl := row_inj hr5' hr5
  obtain rfl := row_inj hrG hr7'
  have e4 := hr4.symm.trans hr
  cases e4
  have hH : ∀ x, 101 ≤ x → h'[x]? = h[x]? := fun x hx => hU x (by omega) (by omega) (by omega) (by omega)
  have hR : ∀ k, k ≠ 0 → k ≠ 4 → k ≠ 5 → k ≠ 7 → h'[a + k]? = h[a + k]? := fun k q1 q2 q3 q4 => hU _ (by omega) (by omega) (by omega) (by omega)
  have etx : txN N' = txN N := txN_ag (fun j hj => hK.1 j (by omega) (by omega))
  have emd : ∀ v, v < 8 → mdB N' v = mdB N v := fun v hv => by
    apply bt_ext
    intro i hi
    rw [bt_md v i hi, bt_md v i hi]
    by_cases e : i < 8
    · rw [hK.1 _ (by omega) (by omega)]
    · rw [decide_eq_false (fun z => e z.1), decide_eq_false (fun z => e z.1)]
  refine ⟨k0, ⟨f1, (hR 1 (by omega) (by omega) (by omega) (by omega)).trans hr1, fun v hv => (he1 v hv).trans (hK.1 _ (by omega) (by omega)).symm⟩, ⟨f2, (hR 2 (by omega) (by omega) (by omega) (by omega)).trans hr2, fun v hv w hw => (he2 v hv w hw).trans (hK.1 _ (by omega) (by omega)).symm⟩, ⟨f3, (hR 3 (by omega) (by omega) (by omega) (by omega)).trans hr3, fun v hv => (he3 v hv).trans (emd v hv).symm⟩, ⟨T, k4, fun i hi => ?_⟩, ⟨_, k5, fun i hi => ?_⟩, ⟨f6, (hR 6 (by omega) (by omega) (by omega) (by omega)).trans hr6⟩, ⟨f7, (hR 8 (by omega) (by omega) (by omega) (by omega)).trans hr7, fun k hk => (he7 k hk).trans (hK.1 _ (by omega) (by omega)).symm⟩, ⟨R8, (hR 9 (by omega) (by omega) (by omega) (by omega)).trans hr8, fun u hu => ?_⟩, ⟨f9, (hR 10 (by omega) (by omega) (by omega) (by omega)).trans hr9⟩, ⟨f10, (hR 11 (by omega) (by omega) (by omega) (by omega)).trans hr10⟩, ⟨_, k7, fun i hi => ?_⟩⟩
  · rw [hK.tc ht] at hi
    by_cases e : i = t
    · rw [e]; exact ⟨b, t1, hb.hi hH⟩
    · obtain ⟨y, hy, hb2⟩ := he4 i (by omega)
      refine ⟨y, (t2 i e).trans hy, ?_⟩
      have hb3 := hb2.hi hH
      unfold ThingAt at hb3 ⊢
      have e1 : kdN N' i = kdN N i := by unfold kdN; rw [hK.1 _ (by omega) (by omega)]
      have e2 : tgF N' i = tgF N i := by unfold tgF; rw [hK.1 _ (by omega) (by omega), hK.1 _ (by omega) (by omega), hK.1 _ (by omega) (by omega), hK.1 _ (by omega) (by omega)]
      rw [e1, e2]
      exact hb3
  · rw [hK.tc ht] at hi
    by_cases e : i = t
    · rw [e, pk_us]; exact hK.2.2.2.symm
    · rw [pk_un e]; exact (he5 i (by omega)).trans (hK.1 _ (by omega) (by omega)).symm
  · rw [etx]
    rcases he8 u hu with z | ⟨z, r, w, hr⟩
    · exact Or.inl z
    · exact Or.inr ⟨z, r, w, hr.hi hH⟩
  · rw [hK.tc ht] at hi
    by_cases e : i = t
    · rw [e, pk_us]
    · rw [pk_un e, heG i (by omega), show kdN N' i = kdN N i by unfold kdN; rw [hK.1 _ (by omega) (by omega)]]
