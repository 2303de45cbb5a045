theorem cpy0 {α : Type} {f g : Nat → α} {n k : Nat} (hk : k < n) : va_cpy f g 0 0 n k = f k := by
  unfold va_cpy
  rw [if_pos ⟨Nat.zero_le _, by omega⟩, Nat.sub_zero, Nat.zero_add]
theorem e_cpi {D : En} {d : Nat} {M : Mt} {pc : Nat} {ls : List (Option Value)} {st : List Value} {h : AH} {nc ns : Nat} {post : Option Value → AH → Prop} {idx a b m : Nat} {f g : Nat → Int32} (hd : decode M.2.1 pc = .ok (.invokestatic idx, 3)) (hy : CY M.1.cls idx) (hdd : 0 < d) (hw : (st.map fun v => v.category).sum ≤ 8) (hc0 : h[a]? = some (.inl (0, m, .inl f))) (hc1 : h[b]? = some (.inl (0, m, .inl g))) (q3 : ¬ Int32.ofNat m < 0) (q : (Int32.ofNat m).toNatClampNeg = m) (kk : ∀ g' : Nat → Int32, (∀ i, i < m → g' i = f i) → Ev D d M (pc + 3) ls st (h.set b (.inl (0, m, .inl g'))) nc ns post) : Ev D d M pc ls (.int (Int32.ofNat m) :: .int (nI 0) :: .ref b :: .int (nI 0) :: .ref a :: st) h nc ns post := by
  have z : (nI 0).toNatClampNeg = 0 := by decide
  refine e_copyi hd hy hdd hw hc0 hc1 (by decide) (by decide) q3 (by rw [z, q]; omega) (by rw [z, q]; omega) ?_
  rw [z, q]
  exact kk _ (fun i hi => cpy0 hi)
theorem e_cpq {D : En} {d : Nat} {M : Mt} {pc : Nat} {ls : List (Option Value)} {st : List Value} {h : AH} {nc ns : Nat} {post : Option Value → AH → Prop} {idx a b m : Nat} {t : Nat} {f g : Nat → Option Nat} (hd : decode M.2.1 pc = .ok (.invokestatic idx, 3)) (hy : CY M.1.cls idx) (hdd : 0 < d) (hw : (st.map fun v => v.category).sum ≤ 8) (ht : t = 1 ∨ t = 2 ∨ t = 3 ∨ t = 4) (hc0 : h[a]? = some (.inl (t, m, .inr (.inr (.inr (.inr f)))))) (hc1 : h[b]? = some (.inl (t, m, .inr (.inr (.inr (.inr g)))))) (q3 : ¬ Int32.ofNat m < 0) (q : (Int32.ofNat m).toNatClampNeg = m) (hel : ∀ i, i < m → ∀ y, f i = some y → ASh h t y) (kk : ∀ g' : Nat → Option Nat, (∀ i, i < m → g' i = f i) → Ev D d M (pc + 3) ls st (h.set b (.inl (t, m, .inr (.inr (.inr (.inr g')))))) nc ns post) : Ev D d M pc ls (.int (Int32.ofNat m) :: .int (nI 0) :: .ref b :: .int (nI 0) :: .ref a :: st) h nc ns post := by
  have z : (nI 0).toNatClampNeg = 0 := by decide
  refine e_copyq hd hy hdd hw ht hc0 hc1 (by decide) (by decide) q3 (by rw [z, q]; omega) (by rw [z, q]; omega) (fun i hi y hy2 => hel i (by rw [q] at hi; exact hi) y (by rw [z, Nat.zero_add] at hy2; exact hy2)) ?_
  rw [z, q]
  exact kk _ (fun i hi => cpy0 hi)
theorem as_thing (k : Nat) : AS (ciK k) 1 := by
  unfold ciK
  split
  · exact ⟨_, _, _, rfl, by decide⟩
  · exact ⟨_, _, _, rfl, by decide⟩
  · exact ⟨_, _, _, rfl, by decide⟩
  · exact ⟨_, _, _, rfl, by decide⟩
  · exact ⟨_, _, _, rfl, by decide⟩
  · exact ⟨_, _, _, rfl, by decide⟩
  · exact ⟨_, _, _, rfl, by decide⟩
theorem as_rule : AS 6 2 := ⟨_, _, _, rfl, by decide⟩
theorem ThingAt.hi {h h' : AH} {b t : Nat} {N : Nat → Int32} (hb : ThingAt h b t N) (hU : ∀ x, 101 ≤ x → h'[x]? = h[x]?) : ThingAt h' b t N := ⟨hb.1, (hU _ hb.1).trans hb.2⟩
theorem RuleAt.hi {h h' : AH} {r u : Nat} {tx : List Nat} (hr : RuleAt h r u tx) (hU : ∀ x, 101 ≤ x → h'[x]? = h[x]?) : RuleAt h' r u tx := by
  obtain ⟨a1, ⟨p, f, a2⟩, ⟨b, a3⟩, ⟨c, a4, a5⟩, ⟨k, a6⟩⟩ := hr
  exact ⟨a1, ⟨p, f, (hU _ (by omega)).trans a2⟩, ⟨b, (hU _ (by omega)).trans a3⟩, ⟨c, (hU _ (by omega)).trans a4, a5⟩, ⟨k, (hU _ (by omega)).trans a6⟩⟩
theorem LandAt.same {h h' : AH} {b : Nat} {N : Nat → Int32} (hL : LandAt h b N) (hU : ∀ x, (b ≤ x ∧ x ≤ b + 11) ∨ 101 ≤ x → h'[x]? = h[x]?) : LandAt h' b N := by
  obtain ⟨hLo, ⟨f1, hr1, he1⟩, ⟨f2, hr2, he2⟩, ⟨f3, hr3, he3⟩, ⟨T4, hr4, he4⟩, ⟨f5, hr5, he5⟩, ⟨f6, hr6, he6⟩, ⟨f7, hr7, he7⟩, ⟨R8, hr8, he8⟩, ⟨f9, hr9⟩, ⟨f10, hr10⟩, ⟨fG, hrG, heG⟩⟩ := hL
  have hH : ∀ x, 101 ≤ x → h'[x]? = h[x]? := fun x hx => hU x (Or.inr hx)
  refine ⟨(hU _ (by omega)).trans hLo, ⟨f1, (hU _ (by omega)).trans hr1, he1⟩, ⟨f2, (hU _ (by omega)).trans hr2, he2⟩, ⟨f3, (hU _ (by omega)).trans hr3, he3⟩, ⟨T4, (hU _ (by omega)).trans hr4, fun t ht => ?_⟩, ⟨f5, (hU _ (by omega)).trans hr5, he5⟩, ⟨f6, (hU _ (by omega)).trans hr6, he6⟩, ⟨f7, (hU _ (by omega)).trans hr7, he7⟩, ⟨R8, (hU _ (by omega)).trans hr8, fun u hu => ?_⟩, ⟨f9, (hU _ (by omega)).trans hr9⟩, ⟨f10, (hU _ (by omega)).trans hr10⟩, ⟨fG, (hU _ (by omega)).trans hrG, heG⟩⟩
  · obtain ⟨y, hy, hb⟩ := he4 t ht
    exact ⟨y, hy, hb.hi hH⟩
  · rcases he8 u hu with z | ⟨z, r, w, hr⟩
    · exact Or.inl z
    · exact Or.inr ⟨z, r, w, hr.hi hH⟩
/-- behind the n THINGS nothing lies in the Land's row -/
def TN (h : AH) (a n : Nat) : Prop := ∃ T : Nat → Option Nat, h[a + 4]? = some (.inl (1, 10, .inr (.inr (.inr (.inr T))))) ∧ ∀ t, n ≤ t → t < 10 → T t = none
/-- a Land whose numbers don't matter -/
def Shp (h : AH) (a : Nat) : Prop := (∃ M, h[a]? = some (.inr (4, lnF a M))) ∧ (∃ f, Row0 h (a + 1) 8 f) ∧ (∃ f, Row0 h (a + 2) 24 f) ∧ (∃ f, Row0 h (a + 3) 8 f) ∧ (∃ T : Nat → Option Nat, h[a + 4]? = some (.inl (1, 10, .inr (.inr (.inr (.inr T)))))) ∧ (∃ f, Row0 h (a + 5) 10 f) ∧ (∃ f, Row0 h (a + 6) 10 f) ∧ (∃ f, Row0 h (a + 8) 6 f) ∧ (∃ R : Nat → Option Nat, h[a + 9]? = some (.inl (2, 3, .inr (.inr (.inr (.inr R)))))) ∧ (∃ f, Row0 h (a + 10) 8 f) ∧ (∃ f, Row0 h (a + 11) 3 f) ∧ (∃ f, Row0 h (a + 7) 10 f)
theorem LandAt.shp {h : AH} {a : Nat} {N : Nat → Int32} (hL : LandAt h a N) : Shp h a := by
  obtain ⟨hLo, ⟨f1, hr1, he1⟩, ⟨f2, hr2, he2⟩, ⟨f3, hr3, he3⟩, ⟨T4, hr4, he4⟩, ⟨f5, hr5, he5⟩, ⟨f6, hr6, he6⟩, ⟨f7, hr7, he7⟩, ⟨R8, hr8, he8⟩, ⟨f9, hr9⟩, ⟨f10, hr10⟩, ⟨fG, hrG, heG⟩⟩ := hL
  exact ⟨⟨N, hLo⟩, ⟨f1, hr1⟩, ⟨f2, hr2⟩, ⟨f3, hr3⟩, ⟨T4, hr4⟩, ⟨f5, hr5⟩, ⟨f6, hr6⟩, ⟨f7, hr7⟩, ⟨R8, hr8⟩, ⟨f9, hr9⟩, ⟨f10, hr10⟩, ⟨fG, hrG⟩⟩
/-- nothing has changed but the Land at a -/
def FA (a : Nat) (h h' : AH) : Prop := h'.length = h.length ∧ ∀ x, (x < a ∨ a + 11 < x) → h'[x]? = h[x]?
theorem FA.fy {a : Nat} {h h1 h2 : AH} {b : Nat} (f : FA a h h1) (x : Nat) (hx : x < a ∨ a + 11 < x) : h1[x]? = h[x]? := f.2 x hx
theorem TN.fy {a n : Nat} {h h' : AH} (hT : TN h a n) (hF : FY a h h') (hB : RB h) (ha : a + 11 < 101) : TN h' a n := by
  obtain ⟨T, t4, t5⟩ := hT
  refine ⟨T, ?_, t5⟩
  rcases hF.2 (a + 4) with e | e | ⟨⟨e3, fs, es⟩, -⟩
  · exact e.trans t4
  · omega
  · have := (hB _ fs es).1
    omega
/-- a store of null into a row of references -/
theorem e_aastore0 {D : En} {d : Nat} {M : Mt} {pc : Nat} {ls : List (Option Value)} {st : List Value} {h : AH} {nc ns : Nat} {post : Option Value → AH → Prop} {a t n : Nat} {f : Nat → Option Nat} {i : Int32} (hd : decode M.2.1 pc = .ok (.aastore, 1)) (hc : h[a]? = some (.inl (t, n, .inr (.inr (.inr (.inr f)))))) (ht : t = 1 ∨ t = 2 ∨ t = 3 ∨ t = 4) (hi : vp_in i n) (kk : Ev D d M (pc + 1) ls st (h.set a (.inl (t, n, .inr (.inr (.inr (.inr (va_up f i.toNatClampNeg none))))))) nc ns post) : Ev D d M pc ls (.null :: .int i :: .ref a :: st) h nc ns post := by
  intro p e R s m args below meth c H locs cells slots mcT msT lsA F hH hS hL h1 h2 h3 h4
  obtain ⟨g1, g2, g3, g4, g5, g6, g7, g8, g9, g10, -⟩ := id F
  have ha := hH.hiQ g9 hc (by omega)
  have hal : a < h.length := (List.getElem?_eq_some_iff.mp hc).1
  refine W_tight fun c0 hc0 hz0 => ?_
  refine va_astqN g1 g2 g10 hH.1 hH.2.1 hS (a - nX) t (wsO_at hc ha) (eT_at D ht) hi hd fun H1 locs1 hP1 hD1 hS1 => ?_
  refine W_size fun hz1 => ?_
  have e1 : va_up (fun i => (f i).map (ad D)) i.toNatClampNeg none = fun j => (va_up f i.toNatClampNeg none j).map (ad D) := by
    funext j
    unfold va_up
    split <;> rfl
  rw [e1] at hP1 hD1
  exact kk p e R s m args below meth c H1 locs1 c0 slots mcT msT lsA F (hH.set (c := .inl (t, n, .inr (.inr (.inr (.inr (va_up f i.toNatClampNeg none)))))) ha hal hP1 hD1 (by omega)) hS1 hL (by omega) h2 h3 h4
/-- a store of a reference or of null -/
theorem e_aasO {D : En} {d : Nat} {M : Mt} {pc : Nat} {ls : List (Option Value)} {st : List Value} {h : AH} {nc ns : Nat} {post : Option Value → AH → Prop} {a t n : Nat} {f : Nat → Option Nat} {i : Int32} (k : Nat) (v : Option Nat) (hd : decode M.2.1 pc = .ok (.aastore, 1)) (hc : h[a]? = some (.inl (t, n, .inr (.inr (.inr (.inr f)))))) (ht : t = 1 ∨ t = 2 ∨ t = 3 ∨ t = 4) (hy : ∀ y, v = some y → ASh h t y) (hi : i = nI k) (hk : k < n) (hn : n < 2 ^ 31) (kk : ∀ f' : Nat → Option Nat, f' k = v → (∀ j, j ≠ k → f' j = f j) → Ev D d M (pc + 1) ls st (h.set a (.inl (t, n, .inr (.inr (.inr (.inr f')))))) nc ns post) : Ev D d M pc ls (orf v :: .int i :: .ref a :: st) h nc ns post := by
  subst hi
  have hz : (nI k).toNatClampNeg = k := nI_clamp (by omega)
  cases v with
  | none =>
    show Ev D d M pc ls (.null :: .int (nI k) :: .ref a :: st) h nc ns post
    refine e_aastore0 hd hc ht (nI_in hk hn) ?_
    rw [hz]
    exact kk _ (if_pos rfl) (fun j hj => if_neg hj)
  | some y =>
    show Ev D d M pc ls (.ref y :: .int (nI k) :: .ref a :: st) h nc ns post
    refine e_aastore hd hc ht (hy y rfl) (nI_in hk hn) ?_
    rw [hz]
    exact kk _ (if_pos rfl) (fun j hj => if_neg hj)
set_option maxRecDepth 20000 in
theorem kl_cp4 (D : En) {h : AH} {a b : Nat} {N : Nat → Int32} {T : Nat → Option Nat} {post : Option Value → AH → Prop} (ha : a + 11 < 101) (hLo : h[a]? = some (.inr (4, lnF a N))) (sLo : h[b]? = some (.inr (4, lnF b N))) (hab : a + 11 < b ∨ b + 11 < a) (s4 : h[b + 4]? = some (.inl (1, 10, .inr (.inr (.inr (.inr T)))))) (hel : ∀ h' : AH, (∀ x, x ≠ a + 4 → h'[x]? = h[x]?) → ∀ i, i < 10 → ∀ y, T i = some y → ASh h' 1 y)
    (hp : ∀ (h' : AH) (G : Nat → Option Nat), (∀ x, x ≠ a + 4 → h'[x]? = h[x]?) → h'.length = h.length → RB h' → h'[a + 4]? = some (.inl (1, 10, .inr (.inr (.inr (.inr G))))) → (∀ i, i < 10 → G i = T i) → Ev D 1 mX4_copyFrom 195 [some (.ref a), some (.ref b), some (.int (nI 10))] [] h' 0 0 post) :
    ∀ (j k : Nat) (h' : AH) (G : Nat → Option Nat), k + j = 10 → (∀ x, x ≠ a + 4 → h'[x]? = h[x]?) → h'.length = h.length → RB h' → h'[a + 4]? = some (.inl (1, 10, .inr (.inr (.inr (.inr G))))) → (∀ i, i < k → G i = T i) → Ev D 1 mX4_copyFrom 168 [some (.ref a), some (.ref b), some (.int (nI k))] [] h' 0 0 post := by
  intro j
  induction j with
  | zero =>
    intro k h' G hk hU hl hB hG hE
    refine e_iload_n dX4_copyFrom_168 rfl ?_
    refine e_aload_n dX4_copyFrom_169 rfl ?_
    refine e_get dX4_copyFrom_170 fl_X4_39_4 ((hU _ (by omega)).trans hLo) rfl ?_
    refine e_alenQ dX4_copyFrom_173 hG (by omega) ?_
    refine e_top (nI 10) rfl ?_
    refine e_icmp_geN 195 dX4_copyFrom_174 (by decide) (by omega) (by omega) (fun hc => ?_) (fun hc => absurd hc (by omega))
    have ek : k = 10 := by omega
    rw [ek] at hE ⊢
    exact hp h' G hU hl hB hG hE
  | succ j ih =>
    intro k h' G hk hU hl hB hG hE
    refine e_iload_n dX4_copyFrom_168 rfl ?_
    refine e_aload_n dX4_copyFrom_169 rfl ?_
    refine e_get dX4_copyFrom_170 fl_X4_39_4 ((hU _ (by omega)).trans hLo) rfl ?_
    refine e_alenQ dX4_copyFrom_173 hG (by omega) ?_
    refine e_top (nI 10) rfl ?_
    refine e_icmp_geN 195 dX4_copyFrom_174 (by decide) (by omega) (by omega) (fun hc => absurd hc (by omega)) (fun hc => ?_)
    refine e_aload_n dX4_copyFrom_177 rfl ?_
    refine e_get dX4_copyFrom_178 fl_X4_39_4 ((hU _ (by omega)).trans hLo) rfl ?_
    refine e_iload_n dX4_copyFrom_181 rfl ?_
    refine e_aload_n dX4_copyFrom_182 rfl ?_
    refine e_get dX4_copyFrom_183 fl_X4_39_4 ((hU _ (by omega)).trans sLo) rfl ?_
    refine e_iload_n dX4_copyFrom_186 rfl ?_
    refine e_ald (v := T k) k dX4_copyFrom_187 ((hU _ (by omega)).trans s4) (by omega) rfl (by omega) (by decide) rfl ?_
    refine e_aasO k (T k) dX4_copyFrom_188 hG (by omega) (fun y hy => hel h' hU k (by omega) y hy) rfl (by omega) (by decide) (fun G' q1 q2 => ?_)
    refine e_iincN (k + 1) dX4_copyFrom_189 rfl (by decide) (nI_add _ _) ?_
    refine e_goto 168 dX4_copyFrom_192 (by decide) ?_
    exact ih (k + 1) _ G' (by omega) (fun x hx => (List.getElem?_set_ne (Ne.symm hx)).trans (hU x hx)) (List.length_set.trans hl) (hB.set (by omega) (fun fs e => by cases e)) (getself hG) (fun i hi => by
      by_cases e : i = k
      · rw [e]; exact q1
      · exact (q2 i e).trans (hE i (by omega)))
set_option maxRecDepth 20000 in
theorem kl_cp9 (D : En) {h : AH} {a b : Nat} {N : Nat → Int32} {T : Nat → Option Nat} {post : Option Value → AH → Prop} (ha : a + 11 < 101) (hLo : h[a]? = some (.inr (4, lnF a N))) (sLo : h[b]? = some (.inr (4, lnF b N))) (hab : a + 11 < b ∨ b + 11 < a) (s4 : h[b + 9]? = some (.inl (2, 3, .inr (.inr (.inr (.inr T)))))) (hel : ∀ h' : AH, (∀ x, x ≠ a + 9 → h'[x]? = h[x]?) → ∀ i, i < 3 → ∀ y, T i = some y → ASh h' 2 y)
    (hp : ∀ (h' : AH) (G : Nat → Option Nat), (∀ x, x ≠ a + 9 → h'[x]? = h[x]?) → h'.length = h.length → RB h' → h'[a + 9]? = some (.inl (2, 3, .inr (.inr (.inr (.inr G))))) → (∀ i, i < 3 → G i = T i) → Ev D 1 mX4_copyFrom 224 [some (.ref a), some (.ref b), some (.int (nI 3))] [] h' 0 0 post) :
    ∀ (j k : Nat) (h' : AH) (G : Nat → Option Nat), k + j = 3 → (∀ x, x ≠ a + 9 → h'[x]? = h[x]?) → h'.length = h.length → RB h' → h'[a + 9]? = some (.inl (2, 3, .inr (.inr (.inr (.inr G))))) → (∀ i, i < k → G i = T i) → Ev D 1 mX4_copyFrom 197 [some (.ref a), some (.ref b), some (.int (nI k))] [] h' 0 0 post := by
  intro j
  induction j with
  | zero =>
    intro k h' G hk hU hl hB hG hE
    refine e_iload_n dX4_copyFrom_197 rfl ?_
    refine e_aload_n dX4_copyFrom_198 rfl ?_
    refine e_get dX4_copyFrom_199 fl_X4_65_4 ((hU _ (by omega)).trans hLo) rfl ?_
    refine e_alenQ dX4_copyFrom_202 hG (by omega) ?_
    refine e_top (nI 3) rfl ?_
    refine e_icmp_geN 224 dX4_copyFrom_203 (by decide) (by omega) (by omega) (fun hc => ?_) (fun hc => absurd hc (by omega))
    have ek : k = 3 := by omega
    rw [ek] at hE ⊢
    exact hp h' G hU hl hB hG hE
  | succ j ih =>
    intro k h' G hk hU hl hB hG hE
    refine e_iload_n dX4_copyFrom_197 rfl ?_
    refine e_aload_n dX4_copyFrom_198 rfl ?_
    refine e_get dX4_copyFrom_199 fl_X4_65_4 ((hU _ (by omega)).trans hLo) rfl ?_
    refine e_alenQ dX4_copyFrom_202 hG (by omega) ?_
    refine e_top (nI 3) rfl ?_
    refine e_icmp_geN 224 dX4_copyFrom_203 (by decide) (by omega) (by omega) (fun hc => absurd hc (by omega)) (fun hc => ?_)
    refine e_aload_n dX4_copyFrom_206 rfl ?_
    refine e_get dX4_copyFrom_207 fl_X4_65_4 ((hU _ (by omega)).trans hLo) rfl ?_
    refine e_iload_n dX4_copyFrom_210 rfl ?_
    refine e_aload_n dX4_copyFrom_211 rfl ?_
    refine e_get dX4_copyFrom_212 fl_X4_65_4 ((hU _ (by omega)).trans sLo) rfl ?_
    refine e_iload_n dX4_copyFrom_215 rfl ?_
    refine e_ald (v := T k) k dX4_copyFrom_216 ((hU _ (by omega)).trans s4) (by omega) rfl (by omega) (by decide) rfl ?_
    refine e_aasO k (T k) dX4_copyFrom_217 hG (by omega) (fun y hy => hel h' hU k (by omega) y hy) rfl (by omega) (by decide) (fun G' q1 q2 => ?_)
    refine e_iincN (k + 1) dX4_copyFrom_218 rfl (by decide) (nI_add _ _) ?_
    refine e_goto 197 dX4_copyFrom_221 (by decide) ?_
    exact ih (k + 1) _ G' (by omega) (fun x hx => (List.getElem?_set_ne (Ne.symm hx)).trans (hU x hx)) (List.length_set.trans hl) (hB.set (by omega) (fun fs e => by cases e)) (getself hG) (fun i hi => by
      by_cases e : i = k
      · rw [e]; exact q1
      · exact (q2 i e).trans (hE i (by omega)))
set_option maxRecDepth 20000 in
theorem k_copy (D : En) {h : AH} {a b : Nat} {N : Nat → Int32} (hA : Shp h a) (ha : a + 11 < 101) (hB : LB h b N) (hI : IN N) (hT : TN h b (tcN N)) (hab : a + 11 < b ∨ b + 11 < a) : Sp D 1 mX4_copyFrom [.ref a, .ref b] h 0 0 none (fun h' => LB h' a N ∧ TN h' a (tcN N) ∧ FA a h h') := by
  have hb9 := hB.2.2
  have htc10 := hI.1.2.2.2.1
  obtain ⟨⟨M, hLo⟩, ⟨_, r1⟩, ⟨_, r2⟩, ⟨_, r3⟩, ⟨_, r4⟩, ⟨_, r5⟩, ⟨_, r6⟩, ⟨_, r8⟩, ⟨_, r9⟩, ⟨_, r10⟩, ⟨_, r11⟩, ⟨_, r7⟩⟩ := id hA
  obtain ⟨sLo, ⟨f1, s1, e1⟩, ⟨f2, s2, e2⟩, ⟨f3, s3, e3⟩, ⟨T4, s4, e4⟩, ⟨f5, s5, e5⟩, ⟨f6, s6, e6⟩, ⟨f8, s8, e8⟩, ⟨R9, s9, e9⟩, -, -, ⟨f7, s7, e7⟩⟩ := id hB.1
  obtain ⟨T, t4, t5⟩ := hT
  have eT := s4.symm.trans t4
  cases eT
  have hB9 := hB.2.1
  obtain ⟨h00, hh00⟩ : ∃ z, z = h := ⟨_, rfl⟩
  have hU : ∀ x, (x < a ∨ a + 11 < x) → h[x]? = h00[x]? := fun x _ => by rw [hh00]
  have hl : h.length = h00.length := by rw [hh00]
  intro post hp
  rw [← hh00] at hp sLo s1 s2 s3 s4 s5 s6 s7 s8 s9 e4 e9
  have hel4 : ∀ h : AH, (∀ x, (x < a ∨ a + 11 < x) → h[x]? = h00[x]?) → ∀ i, i < 10 → ∀ y, T4 i = some y → ASh h 1 y := fun h hU i hi y hy => by
    by_cases q : i < tcN N
    · obtain ⟨z, hz, hb⟩ := e4 i q
      rw [hz] at hy
      cases hy
      exact Or.inl ⟨_, _, (hU _ (by have := hb.1; omega)).trans hb.2, as_thing _⟩
    · rw [t5 i (by omega) hi] at hy
      cases hy
  have hel9 : ∀ h : AH, (∀ x, (x < a ∨ a + 11 < x) → h[x]? = h00[x]?) → ∀ i, i < 3 → ∀ y, R9 i = some y → ASh h 2 y := fun h hU i hi y hy => by
    rcases e9 i hi with ⟨z, w⟩ | ⟨z, r, w, hr⟩
    · rw [w] at hy; cases hy
    · rw [w] at hy
      cases hy
      obtain ⟨a1, ⟨p, f, a2⟩, -⟩ := hr
      exact Or.inl ⟨_, _, (hU _ (by omega)).trans a2, as_rule⟩
  clear hh00
  show Ev D 1 mX4_copyFrom 0 [some (.ref a), some (.ref b), none] [] h 0 0 post
  refine e_aload_n dX4_copyFrom_0 rfl ?_
  refine e_aload_n dX4_copyFrom_1 rfl ?_
  refine e_get dX4_copyFrom_2 fl_X4_9_4 ((hU b (by omega)).trans sLo) rfl ?_
  refine e_put dX4_copyFrom_5 fl_X4_9_4 ft_4 (fun q hq => Or.inl (by cases hq; rfl)) hLo (by show _ < 16; decide) rfl rfl ?_
  have hB9 : RB (h.set (a) (.inr (4, [.int (N 0), .int (M 6), .int (M 1), .int (M 2), .int (opB M), .ref (a + 1), .ref (a + 2), .ref (a + 3), .ref (a + 4), .ref (a + 5), .ref (a + 6), .ref (a + 7), .ref (a + 8), .ref (a + 9), .ref (a + 10), .ref (a + 11)]))) := hB9.set (by omega) (fun fs e => by cases e)
  have hU9 : ∀ x, (x < a ∨ a + 11 < x) → (h.set (a) (.inr (4, [.int (N 0), .int (M 6), .int (M 1), .int (M 2), .int (opB M), .ref (a + 1), .ref (a + 2), .ref (a + 3), .ref (a + 4), .ref (a + 5), .ref (a + 6), .ref (a + 7), .ref (a + 8), .ref (a + 9), .ref (a + 10), .ref (a + 11)])))[x]? = h00[x]? := fun x hx => getset (hU x hx) (by omega)
  have hl9 : (h.set (a) (.inr (4, [.int (N 0), .int (M 6), .int (M 1), .int (M 2), .int (opB M), .ref (a + 1), .ref (a + 2), .ref (a + 3), .ref (a + 4), .ref (a + 5), .ref (a + 6), .ref (a + 7), .ref (a + 8), .ref (a + 9), .ref (a + 10), .ref (a + 11)]))).length = h00.length := List.length_set.trans hl
  have hLon := getself (c := .inr (4, [.int (N 0), .int (M 6), .int (M 1), .int (M 2), .int (opB M), .ref (a + 1), .ref (a + 2), .ref (a + 3), .ref (a + 4), .ref (a + 5), .ref (a + 6), .ref (a + 7), .ref (a + 8), .ref (a + 9), .ref (a + 10), .ref (a + 11)])) hLo
  have r1n := getset (b := a) (c := .inr (4, [.int (N 0), .int (M 6), .int (M 1), .int (M 2), .int (opB M), .ref (a + 1), .ref (a + 2), .ref (a + 3), .ref (a + 4), .ref (a + 5), .ref (a + 6), .ref (a + 7), .ref (a + 8), .ref (a + 9), .ref (a + 10), .ref (a + 11)])) r1 (by omega)
  have r2n := getset (b := a) (c := .inr (4, [.int (N 0), .int (M 6), .int (M 1), .int (M 2), .int (opB M), .ref (a + 1), .ref (a + 2), .ref (a + 3), .ref (a + 4), .ref (a + 5), .ref (a + 6), .ref (a + 7), .ref (a + 8), .ref (a + 9), .ref (a + 10), .ref (a + 11)])) r2 (by omega)
  have r3n := getset (b := a) (c := .inr (4, [.int (N 0), .int (M 6), .int (M 1), .int (M 2), .int (opB M), .ref (a + 1), .ref (a + 2), .ref (a + 3), .ref (a + 4), .ref (a + 5), .ref (a + 6), .ref (a + 7), .ref (a + 8), .ref (a + 9), .ref (a + 10), .ref (a + 11)])) r3 (by omega)
  have r4n := getset (b := a) (c := .inr (4, [.int (N 0), .int (M 6), .int (M 1), .int (M 2), .int (opB M), .ref (a + 1), .ref (a + 2), .ref (a + 3), .ref (a + 4), .ref (a + 5), .ref (a + 6), .ref (a + 7), .ref (a + 8), .ref (a + 9), .ref (a + 10), .ref (a + 11)])) r4 (by omega)
  have r5n := getset (b := a) (c := .inr (4, [.int (N 0), .int (M 6), .int (M 1), .int (M 2), .int (opB M), .ref (a + 1), .ref (a + 2), .ref (a + 3), .ref (a + 4), .ref (a + 5), .ref (a + 6), .ref (a + 7), .ref (a + 8), .ref (a + 9), .ref (a + 10), .ref (a + 11)])) r5 (by omega)
  have r6n := getset (b := a) (c := .inr (4, [.int (N 0), .int (M 6), .int (M 1), .int (M 2), .int (opB M), .ref (a + 1), .ref (a + 2), .ref (a + 3), .ref (a + 4), .ref (a + 5), .ref (a + 6), .ref (a + 7), .ref (a + 8), .ref (a + 9), .ref (a + 10), .ref (a + 11)])) r6 (by omega)
  have r7n := getset (b := a) (c := .inr (4, [.int (N 0), .int (M 6), .int (M 1), .int (M 2), .int (opB M), .ref (a + 1), .ref (a + 2), .ref (a + 3), .ref (a + 4), .ref (a + 5), .ref (a + 6), .ref (a + 7), .ref (a + 8), .ref (a + 9), .ref (a + 10), .ref (a + 11)])) r7 (by omega)
  have r8n := getset (b := a) (c := .inr (4, [.int (N 0), .int (M 6), .int (M 1), .int (M 2), .int (opB M), .ref (a + 1), .ref (a + 2), .ref (a + 3), .ref (a + 4), .ref (a + 5), .ref (a + 6), .ref (a + 7), .ref (a + 8), .ref (a + 9), .ref (a + 10), .ref (a + 11)])) r8 (by omega)
  have r9n := getset (b := a) (c := .inr (4, [.int (N 0), .int (M 6), .int (M 1), .int (M 2), .int (opB M), .ref (a + 1), .ref (a + 2), .ref (a + 3), .ref (a + 4), .ref (a + 5), .ref (a + 6), .ref (a + 7), .ref (a + 8), .ref (a + 9), .ref (a + 10), .ref (a + 11)])) r9 (by omega)
  have r10n := getset (b := a) (c := .inr (4, [.int (N 0), .int (M 6), .int (M 1), .int (M 2), .int (opB M), .ref (a + 1), .ref (a + 2), .ref (a + 3), .ref (a + 4), .ref (a + 5), .ref (a + 6), .ref (a + 7), .ref (a + 8), .ref (a + 9), .ref (a + 10), .ref (a + 11)])) r10 (by omega)
  have r11n := getset (b := a) (c := .inr (4, [.int (N 0), .int (M 6), .int (M 1), .int (M 2), .int (opB M), .ref (a + 1), .ref (a + 2), .ref (a + 3), .ref (a + 4), .ref (a + 5), .ref (a + 6), .ref (a + 7), .ref (a + 8), .ref (a + 9), .ref (a + 10), .ref (a + 11)])) r11 (by omega)
  change Ev D 1 mX4_copyFrom 8 [some (.ref a), some (.ref b), none] [] (h.set (a) (.inr (4, [.int (N 0), .int (M 6), .int (M 1), .int (M 2), .int (opB M), .ref (a + 1), .ref (a + 2), .ref (a + 3), .ref (a + 4), .ref (a + 5), .ref (a + 6), .ref (a + 7), .ref (a + 8), .ref (a + 9), .ref (a + 10), .ref (a + 11)]))) 0 0 post
  obtain ⟨h, hh9⟩ : ∃ z, z = h.set (a) (.inr (4, [.int (N 0), .int (M 6), .int (M 1), .int (M 2), .int (opB M), .ref (a + 1), .ref (a + 2), .ref (a + 3), .ref (a + 4), .ref (a + 5), .ref (a + 6), .ref (a + 7), .ref (a + 8), .ref (a + 9), .ref (a + 10), .ref (a + 11)])) := ⟨_, rfl⟩
  rw [← hh9] at hB9 hU9 hl9 hLon r1n r2n r3n r4n r5n r6n r7n r8n r9n r10n r11n ⊢
  clear hh9
  have hU := hU9
  have hl := hl9
  have hLo := hLon
  have r1 := r1n
  have r2 := r2n
  have r3 := r3n
  have r4 := r4n
  have r5 := r5n
  have r6 := r6n
  have r7 := r7n
  have r8 := r8n
  have r9 := r9n
  have r10 := r10n
  have r11 := r11n
  refine e_aload_n dX4_copyFrom_8 rfl ?_
  refine e_aload_n dX4_copyFrom_9 rfl ?_
  refine e_get dX4_copyFrom_10 fl_X4_15_4 ((hU b (by omega)).trans sLo) rfl ?_
  refine e_put dX4_copyFrom_13 fl_X4_15_4 ft_4 (fun q hq => Or.inl (by cases hq; rfl)) hLo (by show _ < 16; decide) rfl rfl ?_
  have hB9 : RB (h.set (a) (.inr (4, [.int (N 0), .int (N 6), .int (M 1), .int (M 2), .int (opB M), .ref (a + 1), .ref (a + 2), .ref (a + 3), .ref (a + 4), .ref (a + 5), .ref (a + 6), .ref (a + 7), .ref (a + 8), .ref (a + 9), .ref (a + 10), .ref (a + 11)]))) := hB9.set (by omega) (fun fs e => by cases e)
  have hU9 : ∀ x, (x < a ∨ a + 11 < x) → (h.set (a) (.inr (4, [.int (N 0), .int (N 6), .int (M 1), .int (M 2), .int (opB M), .ref (a + 1), .ref (a + 2), .ref (a + 3), .ref (a + 4), .ref (a + 5), .ref (a + 6), .ref (a + 7), .ref (a + 8), .ref (a + 9), .ref (a + 10), .ref (a + 11)])))[x]? = h00[x]? := fun x hx => getset (hU x hx) (by omega)
  have hl9 : (h.set (a) (.inr (4, [.int (N 0), .int (N 6), .int (M 1), .int (M 2), .int (opB M), .ref (a + 1), .ref (a + 2), .ref (a + 3), .ref (a + 4), .ref (a + 5), .ref (a + 6), .ref (a + 7), .ref (a + 8), .ref (a + 9), .ref (a + 10), .ref (a + 11)]))).length = h00.length := List.length_set.trans hl
  have hLon := getself (c := .inr (4, [.int (N 0), .int (N 6), .int (M 1), .int (M 2), .int (opB M), .ref (a + 1), .ref (a + 2), .ref (a + 3), .ref (a + 4), .ref (a + 5), .ref (a + 6), .ref (a + 7), .ref (a + 8), .ref (a + 9), .ref (a + 10), .ref (a + 11)])) hLo
  have r1n := getset (b := a) (c := .inr (4, [.int (N 0), .int (N 6), .int (M 1), .int (M 2), .int (opB M), .ref (a + 1), .ref (a + 2), .ref (a + 3), .ref (a + 4), .ref (a + 5), .ref (a + 6), .ref (a + 7), .ref (a + 8), .ref (a + 9), .ref (a + 10), .ref (a + 11)])) r1 (by omega)
  have r2n := getset (b := a) (c := .inr (4, [.int (N 0), .int (N 6), .int (M 1), .int (M 2), .int (opB M), .ref (a + 1), .ref (a + 2), .ref (a + 3), .ref (a + 4), .ref (a + 5), .ref (a + 6), .ref (a + 7), .ref (a + 8), .ref (a + 9), .ref (a + 10), .ref (a + 11)])) r2 (by omega)
  have r3n := getset (b := a) (c := .inr (4, [.int (N 0), .int (N 6), .int (M 1), .int (M 2), .int (opB M), .ref (a + 1), .ref (a + 2), .ref (a + 3), .ref (a + 4), .ref (a + 5), .ref (a + 6), .ref (a + 7), .ref (a + 8), .ref (a + 9), .ref (a + 10), .ref (a + 11)])) r3 (by omega)
  have r4n := getset (b := a) (c := .inr (4, [.int (N 0), .int (N 6), .int (M 1), .int (M 2), .int (opB M), .ref (a + 1), .ref (a + 2), .ref (a + 3), .ref (a + 4), .ref (a + 5), .ref (a + 6), .ref (a + 7), .ref (a + 8), .ref (a + 9), .ref (a + 10), .ref (a + 11)])) r4 (by omega)
  have r5n := getset (b := a) (c := .inr (4, [.int (N 0), .int (N 6), .int (M 1), .int (M 2), .int (opB M), .ref (a + 1), .ref (a + 2), .ref (a + 3), .ref (a + 4), .ref (a + 5), .ref (a + 6), .ref (a + 7), .ref (a + 8), .ref (a + 9), .ref (a + 10), .ref (a + 11)])) r5 (by omega)
  have r6n := getset (b := a) (c := .inr (4, [.int (N 0), .int (N 6), .int (M 1), .int (M 2), .int (opB M), .ref (a + 1), .ref (a + 2), .ref (a + 3), .ref (a + 4), .ref (a + 5), .ref (a + 6), .ref (a + 7), .ref (a + 8), .ref (a + 9), .ref (a + 10), .ref (a + 11)])) r6 (by omega)
  have r7n := getset (b := a) (c := .inr (4, [.int (N 0), .int (N 6), .int (M 1), .int (M 2), .int (opB M), .ref (a + 1), .ref (a + 2), .ref (a + 3), .ref (a + 4), .ref (a + 5), .ref (a + 6), .ref (a + 7), .ref (a + 8), .ref (a + 9), .ref (a + 10), .ref (a + 11)])) r7 (by omega)
  have r8n := getset (b := a) (c := .inr (4, [.int (N 0), .int (N 6), .int (M 1), .int (M 2), .int (opB M), .ref (a + 1), .ref (a + 2), .ref (a + 3), .ref (a + 4), .ref (a + 5), .ref (a + 6), .ref (a + 7), .ref (a + 8), .ref (a + 9), .ref (a + 10), .ref (a + 11)])) r8 (by omega)
  have r9n := getset (b := a) (c := .inr (4, [.int (N 0), .int (N 6), .int (M 1), .int (M 2), .int (opB M), .ref (a + 1), .ref (a + 2), .ref (a + 3), .ref (a + 4), .ref (a + 5), .ref (a + 6), .ref (a + 7), .ref (a + 8), .ref (a + 9), .ref (a + 10), .ref (a + 11)])) r9 (by omega)
  have r10n := getset (b := a) (c := .inr (4, [.int (N 0), .int (N 6), .int (M 1), .int (M 2), .int (opB M), .ref (a + 1), .ref (a + 2), .ref (a + 3), .ref (a + 4), .ref (a + 5), .ref (a + 6), .ref (a + 7), .ref (a + 8), .ref (a + 9), .ref (a + 10), .ref (a + 11)])) r10 (by omega)
  have r11n := getset (b := a) (c := .inr (4, [.int (N 0), .int (N 6), .int (M 1), .int (M 2), .int (opB M), .ref (a + 1), .ref (a + 2), .ref (a + 3), .ref (a + 4), .ref (a + 5), .ref (a + 6), .ref (a + 7), .ref (a + 8), .ref (a + 9), .ref (a + 10), .ref (a + 11)])) r11 (by omega)
  change Ev D 1 mX4_copyFrom 16 [some (.ref a), some (.ref b), none] [] (h.set (a) (.inr (4, [.int (N 0), .int (N 6), .int (M 1), .int (M 2), .int (opB M), .ref (a + 1), .ref (a + 2), .ref (a + 3), .ref (a + 4), .ref (a + 5), .ref (a + 6), .ref (a + 7), .ref (a + 8), .ref (a + 9), .ref (a + 10), .ref (a + 11)]))) 0 0 post
  obtain ⟨h, hh9⟩ : ∃ z, z = h.set (a) (.inr (4, [.int (N 0), .int (N 6), .int (M 1), .int (M 2), .int (opB M), .ref (a + 1), .ref (a + 2), .ref (a + 3), .ref (a + 4), .ref (a + 5), .ref (a + 6), .ref (a + 7), .ref (a + 8), .ref (a + 9), .ref (a + 10), .ref (a + 11)])) := ⟨_, rfl⟩
  rw [← hh9] at hB9 hU9 hl9 hLon r1n r2n r3n r4n r5n r6n r7n r8n r9n r10n r11n ⊢
  clear hh9
  have hU := hU9
  have hl := hl9
  have hLo := hLon
  have r1 := r1n
  have r2 := r2n
  have r3 := r3n
  have r4 := r4n
  have r5 := r5n
  have r6 := r6n
  have r7 := r7n
  have r8 := r8n
  have r9 := r9n
  have r10 := r10n
  have r11 := r11n
  refine e_aload_n dX4_copyFrom_16 rfl ?_
  refine e_aload_n dX4_copyFrom_17 rfl ?_
  refine e_get dX4_copyFrom_18 fl_X4_18_4 ((hU b (by omega)).trans sLo) rfl ?_
  refine e_put dX4_copyFrom_21 fl_X4_18_4 ft_4 (fun q hq => Or.inl (by cases hq; rfl)) hLo (by show _ < 16; decide) rfl rfl ?_
  have hB9 : RB (h.set (a) (.inr (4, [.int (N 0), .int (N 6), .int (N 1), .int (M 2), .int (opB M), .ref (a + 1), .ref (a + 2), .ref (a + 3), .ref (a + 4), .ref (a + 5), .ref (a + 6), .ref (a + 7), .ref (a + 8), .ref (a + 9), .ref (a + 10), .ref (a + 11)]))) := hB9.set (by omega) (fun fs e => by cases e)
  have hU9 : ∀ x, (x < a ∨ a + 11 < x) → (h.set (a) (.inr (4, [.int (N 0), .int (N 6), .int (N 1), .int (M 2), .int (opB M), .ref (a + 1), .ref (a + 2), .ref (a + 3), .ref (a + 4), .ref (a + 5), .ref (a + 6), .ref (a + 7), .ref (a + 8), .ref (a + 9), .ref (a + 10), .ref (a + 11)])))[x]? = h00[x]? := fun x hx => getset (hU x hx) (by omega)
  have hl9 : (h.set (a) (.inr (4, [.int (N 0), .int (N 6), .int (N 1), .int (M 2), .int (opB M), .ref (a + 1), .ref (a + 2), .ref (a + 3), .ref (a + 4), .ref (a + 5), .ref (a + 6), .ref (a + 7), .ref (a + 8), .ref (a + 9), .ref (a + 10), .ref (a + 11)]))).length = h00.length := List.length_set.trans hl
  have hLon := getself (c := .inr (4, [.int (N 0), .int (N 6), .int (N 1), .int (M 2), .int (opB M), .ref (a + 1), .ref (a + 2), .ref (a + 3), .ref (a + 4), .ref (a + 5), .ref (a + 6), .ref (a + 7), .ref (a + 8), .ref (a + 9), .ref (a + 10), .ref (a + 11)])) hLo
  have r1n := getset (b := a) (c := .inr (4, [.int (N 0), .int (N 6), .int (N 1), .int (M 2), .int (opB M), .ref (a + 1), .ref (a + 2), .ref (a + 3), .ref (a + 4), .ref (a + 5), .ref (a + 6), .ref (a + 7), .ref (a + 8), .ref (a + 9), .ref (a + 10), .ref (a + 11)])) r1 (by omega)
  have r2n := getset (b := a) (c := .inr (4, [.int (N 0), .int (N 6), .int (N 1), .int (M 2), .int (opB M), .ref (a + 1), .ref (a + 2), .ref (a + 3), .ref (a + 4), .ref (a + 5), .ref (a + 6), .ref (a + 7), .ref (a + 8), .ref (a + 9), .ref (a + 10), .ref (a + 11)])) r2 (by omega)
  have r3n := getset (b := a) (c := .inr (4, [.int (N 0), .int (N 6), .int (N 1), .int (M 2), .int (opB M), .ref (a + 1), .ref (a + 2), .ref (a + 3), .ref (a + 4), .ref (a + 5), .ref (a + 6), .ref (a + 7), .ref (a + 8), .ref (a + 9), .ref (a + 10), .ref (a + 11)])) r3 (by omega)
  have r4n := getset (b := a) (c := .inr (4, [.int (N 0), .int (N 6), .int (N 1), .int (M 2), .int (opB M), .ref (a + 1), .ref (a + 2), .ref (a + 3), .ref (a + 4), .ref (a + 5), .ref (a + 6), .ref (a + 7), .ref (a + 8), .ref (a + 9), .ref (a + 10), .ref (a + 11)])) r4 (by omega)
  have r5n := getset (b := a) (c := .inr (4, [.int (N 0), .int (N 6), .int (N 1), .int (M 2), .int (opB M), .ref (a + 1), .ref (a + 2), .ref (a + 3), .ref (a + 4), .ref (a + 5), .ref (a + 6), .ref (a + 7), .ref (a + 8), .ref (a + 9), .ref (a + 10), .ref (a + 11)])) r5 (by omega)
  have r6n := getset (b := a) (c := .inr (4, [.int (N 0), .int (N 6), .int (N 1), .int (M 2), .int (opB M), .ref (a + 1), .ref (a + 2), .ref (a + 3), .ref (a + 4), .ref (a + 5), .ref (a + 6), .ref (a + 7), .ref (a + 8), .ref (a + 9), .ref (a + 10), .ref (a + 11)])) r6 (by omega)
  have r7n := getset (b := a) (c := .inr (4, [.int (N 0), .int (N 6), .int (N 1), .int (M 2), .int (opB M), .ref (a + 1), .ref (a + 2), .ref (a + 3), .ref (a + 4), .ref (a + 5), .ref (a + 6), .ref (a + 7), .ref (a + 8), .ref (a + 9), .ref (a + 10), .ref (a + 11)])) r7 (by omega)
  have r8n := getset (b := a) (c := .inr (4, [.int (N 0), .int (N 6), .int (N 1), .int (M 2), .int (opB M), .ref (a + 1), .ref (a + 2), .ref (a + 3), .ref (a + 4), .ref (a + 5), .ref (a + 6), .ref (a + 7), .ref (a + 8), .ref (a + 9), .ref (a + 10), .ref (a + 11)])) r8 (by omega)
  have r9n := getset (b := a) (c := .inr (4, [.int (N 0), .int (N 6), .int (N 1), .int (M 2), .int (opB M), .ref (a + 1), .ref (a + 2), .ref (a + 3), .ref (a + 4), .ref (a + 5), .ref (a + 6), .ref (a + 7), .ref (a + 8), .ref (a + 9), .ref (a + 10), .ref (a + 11)])) r9 (by omega)
  have r10n := getset (b := a) (c := .inr (4, [.int (N 0), .int (N 6), .int (N 1), .int (M 2), .int (opB M), .ref (a + 1), .ref (a + 2), .ref (a + 3), .ref (a + 4), .ref (a + 5), .ref (a + 6), .ref (a + 7), .ref (a + 8), .ref (a + 9), .ref (a + 10), .ref (a + 11)])) r10 (by omega)
  have r11n := getset (b := a) (c := .inr (4, [.int (N 0), .int (N 6), .int (N 1), .int (M 2), .int (opB M), .ref (a + 1), .ref (a + 2), .ref (a + 3), .ref (a + 4), .ref (a + 5), .ref (a + 6), .ref (a + 7), .ref (a + 8), .ref (a + 9), .ref (a + 10), .ref (a + 11)])) r11 (by omega)
  change Ev D 1 mX4_copyFrom 24 [some (.ref a), some (.ref b), none] [] (h.set (a) (.inr (4, [.int (N 0), .int (N 6), .int (N 1), .int (M 2), .int (opB M), .ref (a + 1), .ref (a + 2), .ref (a + 3), .ref (a + 4), .ref (a + 5), .ref (a + 6), .ref (a + 7), .ref (a + 8), .ref (a + 9), .ref (a + 10), .ref (a + 11)]))) 0 0 post
  obtain ⟨h, hh9⟩ : ∃ z, z = h.set (a) (.inr (4, [.int (N 0), .int (N 6), .int (N 1), .int (M 2), .int (opB M), .ref (a + 1), .ref (a + 2), .ref (a + 3), .ref (a + 4), .ref (a + 5), .ref (a + 6), .ref (a + 7), .ref (a + 8), .ref (a + 9), .ref (a + 10), .ref (a + 11)])) := ⟨_, rfl⟩
  rw [← hh9] at hB9 hU9 hl9 hLon r1n r2n r3n r4n r5n r6n r7n r8n r9n r10n r11n ⊢
  clear hh9
  have hU := hU9
  have hl := hl9
  have hLo := hLon
  have r1 := r1n
  have r2 := r2n
  have r3 := r3n
  have r4 := r4n
  have r5 := r5n
  have r6 := r6n
  have r7 := r7n
  have r8 := r8n
  have r9 := r9n
  have r10 := r10n
  have r11 := r11n
  refine e_aload_n dX4_copyFrom_24 rfl ?_
  refine e_aload_n dX4_copyFrom_25 rfl ?_
  refine e_get dX4_copyFrom_26 fl_X4_21_4 ((hU b (by omega)).trans sLo) rfl ?_
  refine e_put dX4_copyFrom_29 fl_X4_21_4 ft_4 (fun q hq => Or.inl (by cases hq; rfl)) hLo (by show _ < 16; decide) rfl rfl ?_
  have hB9 : RB (h.set (a) (.inr (4, [.int (N 0), .int (N 6), .int (N 1), .int (N 2), .int (opB M), .ref (a + 1), .ref (a + 2), .ref (a + 3), .ref (a + 4), .ref (a + 5), .ref (a + 6), .ref (a + 7), .ref (a + 8), .ref (a + 9), .ref (a + 10), .ref (a + 11)]))) := hB9.set (by omega) (fun fs e => by cases e)
  have hU9 : ∀ x, (x < a ∨ a + 11 < x) → (h.set (a) (.inr (4, [.int (N 0), .int (N 6), .int (N 1), .int (N 2), .int (opB M), .ref (a + 1), .ref (a + 2), .ref (a + 3), .ref (a + 4), .ref (a + 5), .ref (a + 6), .ref (a + 7), .ref (a + 8), .ref (a + 9), .ref (a + 10), .ref (a + 11)])))[x]? = h00[x]? := fun x hx => getset (hU x hx) (by omega)
  have hl9 : (h.set (a) (.inr (4, [.int (N 0), .int (N 6), .int (N 1), .int (N 2), .int (opB M), .ref (a + 1), .ref (a + 2), .ref (a + 3), .ref (a + 4), .ref (a + 5), .ref (a + 6), .ref (a + 7), .ref (a + 8), .ref (a + 9), .ref (a + 10), .ref (a + 11)]))).length = h00.length := List.length_set.trans hl
  have hLon := getself (c := .inr (4, [.int (N 0), .int (N 6), .int (N 1), .int (N 2), .int (opB M), .ref (a + 1), .ref (a + 2), .ref (a + 3), .ref (a + 4), .ref (a + 5), .ref (a + 6), .ref (a + 7), .ref (a + 8), .ref (a + 9), .ref (a + 10), .ref (a + 11)])) hLo
  have r1n := getset (b := a) (c := .inr (4, [.int (N 0), .int (N 6), .int (N 1), .int (N 2), .int (opB M), .ref (a + 1), .ref (a + 2), .ref (a + 3), .ref (a + 4), .ref (a + 5), .ref (a + 6), .ref (a + 7), .ref (a + 8), .ref (a + 9), .ref (a + 10), .ref (a + 11)])) r1 (by omega)
  have r2n := getset (b := a) (c := .inr (4, [.int (N 0), .int (N 6), .int (N 1), .int (N 2), .int (opB M), .ref (a + 1), .ref (a + 2), .ref (a + 3), .ref (a + 4), .ref (a + 5), .ref (a + 6), .ref (a + 7), .ref (a + 8), .ref (a + 9), .ref (a + 10), .ref (a + 11)])) r2 (by omega)
  have r3n := getset (b := a) (c := .inr (4, [.int (N 0), .int (N 6), .int (N 1), .int (N 2), .int (opB M), .ref (a + 1), .ref (a + 2), .ref (a + 3), .ref (a + 4), .ref (a + 5), .ref (a + 6), .ref (a + 7), .ref (a + 8), .ref (a + 9), .ref (a + 10), .ref (a + 11)])) r3 (by omega)
  have r4n := getset (b := a) (c := .inr (4, [.int (N 0), .int (N 6), .int (N 1), .int (N 2), .int (opB M), .ref (a + 1), .ref (a + 2), .ref (a + 3), .ref (a + 4), .ref (a + 5), .ref (a + 6), .ref (a + 7), .ref (a + 8), .ref (a + 9), .ref (a + 10), .ref (a + 11)])) r4 (by omega)
  have r5n := getset (b := a) (c := .inr (4, [.int (N 0), .int (N 6), .int (N 1), .int (N 2), .int (opB M), .ref (a + 1), .ref (a + 2), .ref (a + 3), .ref (a + 4), .ref (a + 5), .ref (a + 6), .ref (a + 7), .ref (a + 8), .ref (a + 9), .ref (a + 10), .ref (a + 11)])) r5 (by omega)
  have r6n := getset (b := a) (c := .inr (4, [.int (N 0), .int (N 6), .int (N 1), .int (N 2), .int (opB M), .ref (a + 1), .ref (a + 2), .ref (a + 3), .ref (a + 4), .ref (a + 5), .ref (a + 6), .ref (a + 7), .ref (a + 8), .ref (a + 9), .ref (a + 10), .ref (a + 11)])) r6 (by omega)
  have r7n := getset (b := a) (c := .inr (4, [.int (N 0), .int (N 6), .int (N 1), .int (N 2), .int (opB M), .ref (a + 1), .ref (a + 2), .ref (a + 3), .ref (a + 4), .ref (a + 5), .ref (a + 6), .ref (a + 7), .ref (a + 8), .ref (a + 9), .ref (a + 10), .ref (a + 11)])) r7 (by omega)
  have r8n := getset (b := a) (c := .inr (4, [.int (N 0), .int (N 6), .int (N 1), .int (N 2), .int (opB M), .ref (a + 1), .ref (a + 2), .ref (a + 3), .ref (a + 4), .ref (a + 5), .ref (a + 6), .ref (a + 7), .ref (a + 8), .ref (a + 9), .ref (a + 10), .ref (a + 11)])) r8 (by omega)
  have r9n := getset (b := a) (c := .inr (4, [.int (N 0), .int (N 6), .int (N 1), .int (N 2), .int (opB M), .ref (a + 1), .ref (a + 2), .ref (a + 3), .ref (a + 4), .ref (a + 5), .ref (a + 6), .ref (a + 7), .ref (a + 8), .ref (a + 9), .ref (a + 10), .ref (a + 11)])) r9 (by omega)
  have r10n := getset (b := a) (c := .inr (4, [.int (N 0), .int (N 6), .int (N 1), .int (N 2), .int (opB M), .ref (a + 1), .ref (a + 2), .ref (a + 3), .ref (a + 4), .ref (a + 5), .ref (a + 6), .ref (a + 7), .ref (a + 8), .ref (a + 9), .ref (a + 10), .ref (a + 11)])) r10 (by omega)
  have r11n := getset (b := a) (c := .inr (4, [.int (N 0), .int (N 6), .int (N 1), .int (N 2), .int (opB M), .ref (a + 1), .ref (a + 2), .ref (a + 3), .ref (a + 4), .ref (a + 5), .ref (a + 6), .ref (a + 7), .ref (a + 8), .ref (a + 9), .ref (a + 10), .ref (a + 11)])) r11 (by omega)
  change Ev D 1 mX4_copyFrom 32 [some (.ref a), some (.ref b), none] [] (h.set (a) (.inr (4, [.int (N 0), .int (N 6), .int (N 1), .int (N 2), .int (opB M), .ref (a + 1), .ref (a + 2), .ref (a + 3), .ref (a + 4), .ref (a + 5), .ref (a + 6), .ref (a + 7), .ref (a + 8), .ref (a + 9), .ref (a + 10), .ref (a + 11)]))) 0 0 post
  obtain ⟨h, hh9⟩ : ∃ z, z = h.set (a) (.inr (4, [.int (N 0), .int (N 6), .int (N 1), .int (N 2), .int (opB M), .ref (a + 1), .ref (a + 2), .ref (a + 3), .ref (a + 4), .ref (a + 5), .ref (a + 6), .ref (a + 7), .ref (a + 8), .ref (a + 9), .ref (a + 10), .ref (a + 11)])) := ⟨_, rfl⟩
  rw [← hh9] at hB9 hU9 hl9 hLon r1n r2n r3n r4n r5n r6n r7n r8n r9n r10n r11n ⊢
  clear hh9
  have hU := hU9
  have hl := hl9
  have hLo := hLon
  have r1 := r1n
  have r2 := r2n
  have r3 := r3n
  have r4 := r4n
  have r5 := r5n
  have r6 := r6n
  have r7 := r7n
  have r8 := r8n
  have r9 := r9n
  have r10 := r10n
  have r11 := r11n
  refine e_aload_n dX4_copyFrom_32 rfl ?_
  refine e_aload_n dX4_copyFrom_33 rfl ?_
  refine e_get dX4_copyFrom_34 fl_X4_24_4 ((hU b (by omega)).trans sLo) rfl ?_
  refine e_put dX4_copyFrom_37 fl_X4_24_4 ft_4 (fun q hq => Or.inl (by cases hq; rfl)) hLo (by show _ < 16; decide) rfl rfl ?_
  have hB9 : RB (h.set (a) (.inr (4, [.int (N 0), .int (N 6), .int (N 1), .int (N 2), .int (opB N), .ref (a + 1), .ref (a + 2), .ref (a + 3), .ref (a + 4), .ref (a + 5), .ref (a + 6), .ref (a + 7), .ref (a + 8), .ref (a + 9), .ref (a + 10), .ref (a + 11)]))) := hB9.set (by omega) (fun fs e => by cases e)
  have hU9 : ∀ x, (x < a ∨ a + 11 < x) → (h.set (a) (.inr (4, [.int (N 0), .int (N 6), .int (N 1), .int (N 2), .int (opB N), .ref (a + 1), .ref (a + 2), .ref (a + 3), .ref (a + 4), .ref (a + 5), .ref (a + 6), .ref (a + 7), .ref (a + 8), .ref (a + 9), .ref (a + 10), .ref (a + 11)])))[x]? = h00[x]? := fun x hx => getset (hU x hx) (by omega)
  have hl9 : (h.set (a) (.inr (4, [.int (N 0), .int (N 6), .int (N 1), .int (N 2), .int (opB N), .ref (a + 1), .ref (a + 2), .ref (a + 3), .ref (a + 4), .ref (a + 5), .ref (a + 6), .ref (a + 7), .ref (a + 8), .ref (a + 9), .ref (a + 10), .ref (a + 11)]))).length = h00.length := List.length_set.trans hl
  have hLon := getself (c := .inr (4, [.int (N 0), .int (N 6), .int (N 1), .int (N 2), .int (opB N), .ref (a + 1), .ref (a + 2), .ref (a + 3), .ref (a + 4), .ref (a + 5), .ref (a + 6), .ref (a + 7), .ref (a + 8), .ref (a + 9), .ref (a + 10), .ref (a + 11)])) hLo
  have r1n := getset (b := a) (c := .inr (4, [.int (N 0), .int (N 6), .int (N 1), .int (N 2), .int (opB N), .ref (a + 1), .ref (a + 2), .ref (a + 3), .ref (a + 4), .ref (a + 5), .ref (a + 6), .ref (a + 7), .ref (a + 8), .ref (a + 9), .ref (a + 10), .ref (a + 11)])) r1 (by omega)
  have r2n := getset (b := a) (c := .inr (4, [.int (N 0), .int (N 6), .int (N 1), .int (N 2), .int (opB N), .ref (a + 1), .ref (a + 2), .ref (a + 3), .ref (a + 4), .ref (a + 5), .ref (a + 6), .ref (a + 7), .ref (a + 8), .ref (a + 9), .ref (a + 10), .ref (a + 11)])) r2 (by omega)
  have r3n := getset (b := a) (c := .inr (4, [.int (N 0), .int (N 6), .int (N 1), .int (N 2), .int (opB N), .ref (a + 1), .ref (a + 2), .ref (a + 3), .ref (a + 4), .ref (a + 5), .ref (a + 6), .ref (a + 7), .ref (a + 8), .ref (a + 9), .ref (a + 10), .ref (a + 11)])) r3 (by omega)
  have r4n := getset (b := a) (c := .inr (4, [.int (N 0), .int (N 6), .int (N 1), .int (N 2), .int (opB N), .ref (a + 1), .ref (a + 2), .ref (a + 3), .ref (a + 4), .ref (a + 5), .ref (a + 6), .ref (a + 7), .ref (a + 8), .ref (a + 9), .ref (a + 10), .ref (a + 11)])) r4 (by omega)
  have r5n := getset (b := a) (c := .inr (4, [.int (N 0), .int (N 6), .int (N 1), .int (N 2), .int (opB N), .ref (a + 1), .ref (a + 2), .ref (a + 3), .ref (a + 4), .ref (a + 5), .ref (a + 6), .ref (a + 7), .ref (a + 8), .ref (a + 9), .ref (a + 10), .ref (a + 11)])) r5 (by omega)
  have r6n := getset (b := a) (c := .inr (4, [.int (N 0), .int (N 6), .int (N 1), .int (N 2), .int (opB N), .ref (a + 1), .ref (a + 2), .ref (a + 3), .ref (a + 4), .ref (a + 5), .ref (a + 6), .ref (a + 7), .ref (a + 8), .ref (a + 9), .ref (a + 10), .ref (a + 11)])) r6 (by omega)
  have r7n := getset (b := a) (c := .inr (4, [.int (N 0), .int (N 6), .int (N 1), .int (N 2), .int (opB N), .ref (a + 1), .ref (a + 2), .ref (a + 3), .ref (a + 4), .ref (a + 5), .ref (a + 6), .ref (a + 7), .ref (a + 8), .ref (a + 9), .ref (a + 10), .ref (a + 11)])) r7 (by omega)
  have r8n := getset (b := a) (c := .inr (4, [.int (N 0), .int (N 6), .int (N 1), .int (N 2), .int (opB N), .ref (a + 1), .ref (a + 2), .ref (a + 3), .ref (a + 4), .ref (a + 5), .ref (a + 6), .ref (a + 7), .ref (a + 8), .ref (a + 9), .ref (a + 10), .ref (a + 11)])) r8 (by omega)
  have r9n := getset (b := a) (c := .inr (4, [.int (N 0), .int (N 6), .int (N 1), .int (N 2), .int (opB N), .ref (a + 1), .ref (a + 2), .ref (a + 3), .ref (a + 4), .ref (a + 5), .ref (a + 6), .ref (a + 7), .ref (a + 8), .ref (a + 9), .ref (a + 10), .ref (a + 11)])) r9 (by omega)
  have r10n := getset (b := a) (c := .inr (4, [.int (N 0), .int (N 6), .int (N 1), .int (N 2), .int (opB N), .ref (a + 1), .ref (a + 2), .ref (a + 3), .ref (a + 4), .ref (a + 5), .ref (a + 6), .ref (a + 7), .ref (a + 8), .ref (a + 9), .ref (a + 10), .ref (a + 11)])) r10 (by omega)
  have r11n := getset (b := a) (c := .inr (4, [.int (N 0), .int (N 6), .int (N 1), .int (N 2), .int (opB N), .ref (a + 1), .ref (a + 2), .ref (a + 3), .ref (a + 4), .ref (a + 5), .ref (a + 6), .ref (a + 7), .ref (a + 8), .ref (a + 9), .ref (a + 10), .ref (a + 11)])) r11 (by omega)
  change Ev D 1 mX4_copyFrom 40 [some (.ref a), some (.ref b), none] [] (h.set (a) (.inr (4, [.int (N 0), .int (N 6), .int (N 1), .int (N 2), .int (opB N), .ref (a + 1), .ref (a + 2), .ref (a + 3), .ref (a + 4), .ref (a + 5), .ref (a + 6), .ref (a + 7), .ref (a + 8), .ref (a + 9), .ref (a + 10), .ref (a + 11)]))) 0 0 post
  obtain ⟨h, hh9⟩ : ∃ z, z = h.set (a) (.inr (4, [.int (N 0), .int (N 6), .int (N 1), .int (N 2), .int (opB N), .ref (a + 1), .ref (a + 2), .ref (a + 3), .ref (a + 4), .ref (a + 5), .ref (a + 6), .ref (a + 7), .ref (a + 8), .ref (a + 9), .ref (a + 10), .ref (a + 11)])) := ⟨_, rfl⟩
  rw [← hh9] at hB9 hU9 hl9 hLon r1n r2n r3n r4n r5n r6n r7n r8n r9n r10n r11n ⊢
  clear hh9
  have hU := hU9
  have hl := hl9
  have hLo := hLon
  have r1 := r1n
  have r2 := r2n
  have r3 := r3n
  have r4 := r4n
  have r5 := r5n
  have r6 := r6n
  have r7 := r7n
  have r8 := r8n
  have r9 := r9n
  have r10 := r10n
  have r11 := r11n
  refine e_aload_n dX4_copyFrom_40 rfl ?_
  refine e_get dX4_copyFrom_41 fl_X4_27_4 ((hU b (by omega)).trans sLo) rfl ?_
  refine e_iconst (nI 0) dX4_copyFrom_44 (by decide) ?_
  refine e_aload_n dX4_copyFrom_45 rfl ?_
  refine e_get dX4_copyFrom_46 fl_X4_27_4 hLo rfl ?_
  refine e_iconst (nI 0) dX4_copyFrom_49 (by decide) ?_
  refine e_aload_n dX4_copyFrom_50 rfl ?_
  refine e_get dX4_copyFrom_51 fl_X4_27_4 hLo rfl ?_
  refine e_alen dX4_copyFrom_54 r1 ?_
  refine e_cpi dX4_copyFrom_55 cy_X4_75 (by decide) (Nat.le_of_ble_eq_true rfl) ((hU (b + 1) (by omega)).trans s1) r1 (by decide) (by decide) (fun g1 k1 => ?_)
  have hB9 : RB (h.set (a + 1) (.inl (0, 8, .inl g1))) := hB9.set (by omega) (fun fs e => by cases e)
  have hU9 : ∀ x, (x < a ∨ a + 11 < x) → (h.set (a + 1) (.inl (0, 8, .inl g1)))[x]? = h00[x]? := fun x hx => getset (hU x hx) (by omega)
  have hl9 : (h.set (a + 1) (.inl (0, 8, .inl g1))).length = h00.length := List.length_set.trans hl
  have hLon := getset (b := a + 1) (c := .inl (0, 8, .inl g1)) hLo (by omega)
  have r1n := getself (c := .inl (0, 8, .inl g1)) r1
  have r2n := getset (b := a + 1) (c := .inl (0, 8, .inl g1)) r2 (by omega)
  have r3n := getset (b := a + 1) (c := .inl (0, 8, .inl g1)) r3 (by omega)
  have r4n := getset (b := a + 1) (c := .inl (0, 8, .inl g1)) r4 (by omega)
  have r5n := getset (b := a + 1) (c := .inl (0, 8, .inl g1)) r5 (by omega)
  have r6n := getset (b := a + 1) (c := .inl (0, 8, .inl g1)) r6 (by omega)
  have r7n := getset (b := a + 1) (c := .inl (0, 8, .inl g1)) r7 (by omega)
  have r8n := getset (b := a + 1) (c := .inl (0, 8, .inl g1)) r8 (by omega)
  have r9n := getset (b := a + 1) (c := .inl (0, 8, .inl g1)) r9 (by omega)
  have r10n := getset (b := a + 1) (c := .inl (0, 8, .inl g1)) r10 (by omega)
  have r11n := getset (b := a + 1) (c := .inl (0, 8, .inl g1)) r11 (by omega)
  change Ev D 1 mX4_copyFrom 58 [some (.ref a), some (.ref b), none] [] (h.set (a + 1) (.inl (0, 8, .inl g1))) 0 0 post
  obtain ⟨h, hh9⟩ : ∃ z, z = h.set (a + 1) (.inl (0, 8, .inl g1)) := ⟨_, rfl⟩
  rw [← hh9] at hB9 hU9 hl9 hLon r1n r2n r3n r4n r5n r6n r7n r8n r9n r10n r11n ⊢
  clear hh9
  have hU := hU9
  have hl := hl9
  have hLo := hLon
  have r1 := r1n
  have r2 := r2n
  have r3 := r3n
  have r4 := r4n
  have r5 := r5n
  have r6 := r6n
  have r7 := r7n
  have r8 := r8n
  have r9 := r9n
  have r10 := r10n
  have r11 := r11n
  refine e_aload_n dX4_copyFrom_58 rfl ?_
  refine e_get dX4_copyFrom_59 fl_X4_31_4 ((hU b (by omega)).trans sLo) rfl ?_
  refine e_iconst (nI 0) dX4_copyFrom_62 (by decide) ?_
  refine e_aload_n dX4_copyFrom_63 rfl ?_
  refine e_get dX4_copyFrom_64 fl_X4_31_4 hLo rfl ?_
  refine e_iconst (nI 0) dX4_copyFrom_67 (by decide) ?_
  refine e_aload_n dX4_copyFrom_68 rfl ?_
  refine e_get dX4_copyFrom_69 fl_X4_31_4 hLo rfl ?_
  refine e_alen dX4_copyFrom_72 r2 ?_
  refine e_cpi dX4_copyFrom_73 cy_X4_75 (by decide) (Nat.le_of_ble_eq_true rfl) ((hU (b + 2) (by omega)).trans s2) r2 (by decide) (by decide) (fun g2 k2 => ?_)
  have hB9 : RB (h.set (a + 2) (.inl (0, 24, .inl g2))) := hB9.set (by omega) (fun fs e => by cases e)
  have hU9 : ∀ x, (x < a ∨ a + 11 < x) → (h.set (a + 2) (.inl (0, 24, .inl g2)))[x]? = h00[x]? := fun x hx => getset (hU x hx) (by omega)
  have hl9 : (h.set (a + 2) (.inl (0, 24, .inl g2))).length = h00.length := List.length_set.trans hl
  have hLon := getset (b := a + 2) (c := .inl (0, 24, .inl g2)) hLo (by omega)
  have r1n := getset (b := a + 2) (c := .inl (0, 24, .inl g2)) r1 (by omega)
  have r2n := getself (c := .inl (0, 24, .inl g2)) r2
  have r3n := getset (b := a + 2) (c := .inl (0, 24, .inl g2)) r3 (by omega)
  have r4n := getset (b := a + 2) (c := .inl (0, 24, .inl g2)) r4 (by omega)
  have r5n := getset (b := a + 2) (c := .inl (0, 24, .inl g2)) r5 (by omega)
  have r6n := getset (b := a + 2) (c := .inl (0, 24, .inl g2)) r6 (by omega)
  have r7n := getset (b := a + 2) (c := .inl (0, 24, .inl g2)) r7 (by omega)
  have r8n := getset (b := a + 2) (c := .inl (0, 24, .inl g2)) r8 (by omega)
  have r9n := getset (b := a + 2) (c := .inl (0, 24, .inl g2)) r9 (by omega)
  have r10n := getset (b := a + 2) (c := .inl (0, 24, .inl g2)) r10 (by omega)
  have r11n := getset (b := a + 2) (c := .inl (0, 24, .inl g2)) r11 (by omega)
  change Ev D 1 mX4_copyFrom 76 [some (.ref a), some (.ref b), none] [] (h.set (a + 2) (.inl (0, 24, .inl g2))) 0 0 post
  obtain ⟨h, hh9⟩ : ∃ z, z = h.set (a + 2) (.inl (0, 24, .inl g2)) := ⟨_, rfl⟩
  rw [← hh9] at hB9 hU9 hl9 hLon r1n r2n r3n r4n r5n r6n r7n r8n r9n r10n r11n ⊢
  clear hh9
  have hU := hU9
  have hl := hl9
  have hLo := hLon
  have r1 := r1n
  have r2 := r2n
  have r3 := r3n
  have r4 := r4n
  have r5 := r5n
  have r6 := r6n
  have r7 := r7n
  have r8 := r8n
  have r9 := r9n
  have r10 := r10n
  have r11 := r11n
  refine e_aload_n dX4_copyFrom_76 rfl ?_
  refine e_get dX4_copyFrom_77 fl_X4_34_4 ((hU b (by omega)).trans sLo) rfl ?_
  refine e_iconst (nI 0) dX4_copyFrom_80 (by decide) ?_
  refine e_aload_n dX4_copyFrom_81 rfl ?_
  refine e_get dX4_copyFrom_82 fl_X4_34_4 hLo rfl ?_
  refine e_iconst (nI 0) dX4_copyFrom_85 (by decide) ?_
  refine e_aload_n dX4_copyFrom_86 rfl ?_
  refine e_get dX4_copyFrom_87 fl_X4_34_4 hLo rfl ?_
  refine e_alen dX4_copyFrom_90 r3 ?_
  refine e_cpi dX4_copyFrom_91 cy_X4_75 (by decide) (Nat.le_of_ble_eq_true rfl) ((hU (b + 3) (by omega)).trans s3) r3 (by decide) (by decide) (fun g3 k3 => ?_)
  have hB9 : RB (h.set (a + 3) (.inl (0, 8, .inl g3))) := hB9.set (by omega) (fun fs e => by cases e)
  have hU9 : ∀ x, (x < a ∨ a + 11 < x) → (h.set (a + 3) (.inl (0, 8, .inl g3)))[x]? = h00[x]? := fun x hx => getset (hU x hx) (by omega)
  have hl9 : (h.set (a + 3) (.inl (0, 8, .inl g3))).length = h00.length := List.length_set.trans hl
  have hLon := getset (b := a + 3) (c := .inl (0, 8, .inl g3)) hLo (by omega)
  have r1n := getset (b := a + 3) (c := .inl (0, 8, .inl g3)) r1 (by omega)
  have r2n := getset (b := a + 3) (c := .inl (0, 8, .inl g3)) r2 (by omega)
  have r3n := getself (c := .inl (0, 8, .inl g3)) r3
  have r4n := getset (b := a + 3) (c := .inl (0, 8, .inl g3)) r4 (by omega)
  have r5n := getset (b := a + 3) (c := .inl (0, 8, .inl g3)) r5 (by omega)
  have r6n := getset (b := a + 3) (c := .inl (0, 8, .inl g3)) r6 (by omega)
  have r7n := getset (b := a + 3) (c := .inl (0, 8, .inl g3)) r7 (by omega)
  have r8n := getset (b := a + 3) (c := .inl (0, 8, .inl g3)) r8 (by omega)
  have r9n := getset (b := a + 3) (c := .inl (0, 8, .inl g3)) r9 (by omega)
  have r10n := getset (b := a + 3) (c := .inl (0, 8, .inl g3)) r10 (by omega)
  have r11n := getset (b := a + 3) (c := .inl (0, 8, .inl g3)) r11 (by omega)
  change Ev D 1 mX4_copyFrom 94 [some (.ref a), some (.ref b), none] [] (h.set (a + 3) (.inl (0, 8, .inl g3))) 0 0 post
  obtain ⟨h, hh9⟩ : ∃ z, z = h.set (a + 3) (.inl (0, 8, .inl g3)) := ⟨_, rfl⟩
  rw [← hh9] at hB9 hU9 hl9 hLon r1n r2n r3n r4n r5n r6n r7n r8n r9n r10n r11n ⊢
  clear hh9
  have hU := hU9
  have hl := hl9
  have hLo := hLon
  have r1 := r1n
  have r2 := r2n
  have r3 := r3n
  have r4 := r4n
  have r5 := r5n
  have r6 := r6n
  have r7 := r7n
  have r8 := r8n
  have r9 := r9n
  have r10 := r10n
  have r11 := r11n
  refine e_aload_n dX4_copyFrom_94 rfl ?_
  refine e_get dX4_copyFrom_95 fl_X4_43_4 ((hU b (by omega)).trans sLo) rfl ?_
  refine e_iconst (nI 0) dX4_copyFrom_98 (by decide) ?_
  refine e_aload_n dX4_copyFrom_99 rfl ?_
  refine e_get dX4_copyFrom_100 fl_X4_43_4 hLo rfl ?_
  refine e_iconst (nI 0) dX4_copyFrom_103 (by decide) ?_
  refine e_aload_n dX4_copyFrom_104 rfl ?_
  refine e_get dX4_copyFrom_105 fl_X4_43_4 hLo rfl ?_
  refine e_alen dX4_copyFrom_108 r5 ?_
  refine e_cpi dX4_copyFrom_109 cy_X4_75 (by decide) (Nat.le_of_ble_eq_true rfl) ((hU (b + 5) (by omega)).trans s5) r5 (by decide) (by decide) (fun g5 k5 => ?_)
  have hB9 : RB (h.set (a + 5) (.inl (0, 10, .inl g5))) := hB9.set (by omega) (fun fs e => by cases e)
  have hU9 : ∀ x, (x < a ∨ a + 11 < x) → (h.set (a + 5) (.inl (0, 10, .inl g5)))[x]? = h00[x]? := fun x hx => getset (hU x hx) (by omega)
  have hl9 : (h.set (a + 5) (.inl (0, 10, .inl g5))).length = h00.length := List.length_set.trans hl
  have hLon := getset (b := a + 5) (c := .inl (0, 10, .inl g5)) hLo (by omega)
  have r1n := getset (b := a + 5) (c := .inl (0, 10, .inl g5)) r1 (by omega)
  have r2n := getset (b := a + 5) (c := .inl (0, 10, .inl g5)) r2 (by omega)
  have r3n := getset (b := a + 5) (c := .inl (0, 10, .inl g5)) r3 (by omega)
  have r4n := getset (b := a + 5) (c := .inl (0, 10, .inl g5)) r4 (by omega)
  have r5n := getself (c := .inl (0, 10, .inl g5)) r5
  have r6n := getset (b := a + 5) (c := .inl (0, 10, .inl g5)) r6 (by omega)
  have r7n := getset (b := a + 5) (c := .inl (0, 10, .inl g5)) r7 (by omega)
  have r8n := getset (b := a + 5) (c := .inl (0, 10, .inl g5)) r8 (by omega)
  have r9n := getset (b := a + 5) (c := .inl (0, 10, .inl g5)) r9 (by omega)
  have r10n := getset (b := a + 5) (c := .inl (0, 10, .inl g5)) r10 (by omega)
  have r11n := getset (b := a + 5) (c := .inl (0, 10, .inl g5)) r11 (by omega)
  change Ev D 1 mX4_copyFrom 112 [some (.ref a), some (.ref b), none] [] (h.set (a + 5) (.inl (0, 10, .inl g5))) 0 0 post
  obtain ⟨h, hh9⟩ : ∃ z, z = h.set (a + 5) (.inl (0, 10, .inl g5)) := ⟨_, rfl⟩
  rw [← hh9] at hB9 hU9 hl9 hLon r1n r2n r3n r4n r5n r6n r7n r8n r9n r10n r11n ⊢
  clear hh9
  have hU := hU9
  have hl := hl9
  have hLo := hLon
  have r1 := r1n
  have r2 := r2n
  have r3 := r3n
  have r4 := r4n
  have r5 := r5n
  have r6 := r6n
  have r7 := r7n
  have r8 := r8n
  have r9 := r9n
  have r10 := r10n
  have r11 := r11n
  refine e_aload_n dX4_copyFrom_112 rfl ?_
  refine e_get dX4_copyFrom_113 fl_X4_46_4 ((hU b (by omega)).trans sLo) rfl ?_
  refine e_iconst (nI 0) dX4_copyFrom_116 (by decide) ?_
  refine e_aload_n dX4_copyFrom_117 rfl ?_
  refine e_get dX4_copyFrom_118 fl_X4_46_4 hLo rfl ?_
  refine e_iconst (nI 0) dX4_copyFrom_121 (by decide) ?_
  refine e_aload_n dX4_copyFrom_122 rfl ?_
  refine e_get dX4_copyFrom_123 fl_X4_46_4 hLo rfl ?_
  refine e_alen dX4_copyFrom_126 r6 ?_
  refine e_cpi dX4_copyFrom_127 cy_X4_75 (by decide) (Nat.le_of_ble_eq_true rfl) ((hU (b + 6) (by omega)).trans s6) r6 (by decide) (by decide) (fun g6 k6 => ?_)
  have hB9 : RB (h.set (a + 6) (.inl (0, 10, .inl g6))) := hB9.set (by omega) (fun fs e => by cases e)
  have hU9 : ∀ x, (x < a ∨ a + 11 < x) → (h.set (a + 6) (.inl (0, 10, .inl g6)))[x]? = h00[x]? := fun x hx => getset (hU x hx) (by omega)
  have hl9 : (h.set (a + 6) (.inl (0, 10, .inl g6))).length = h00.length := List.length_set.trans hl
  have hLon := getset (b := a + 6) (c := .inl (0, 10, .inl g6)) hLo (by omega)
  have r1n := getset (b := a + 6) (c := .inl (0, 10, .inl g6)) r1 (by omega)
  have r2n := getset (b := a + 6) (c := .inl (0, 10, .inl g6)) r2 (by omega)
  have r3n := getset (b := a + 6) (c := .inl (0, 10, .inl g6)) r3 (by omega)
  have r4n := getset (b := a + 6) (c := .inl (0, 10, .inl g6)) r4 (by omega)
  have r5n := getset (b := a + 6) (c := .inl (0, 10, .inl g6)) r5 (by omega)
  have r6n := getself (c := .inl (0, 10, .inl g6)) r6
  have r7n := getset (b := a + 6) (c := .inl (0, 10, .inl g6)) r7 (by omega)
  have r8n := getset (b := a + 6) (c := .inl (0, 10, .inl g6)) r8 (by omega)
  have r9n := getset (b := a + 6) (c := .inl (0, 10, .inl g6)) r9 (by omega)
  have r10n := getset (b := a + 6) (c := .inl (0, 10, .inl g6)) r10 (by omega)
  have r11n := getset (b := a + 6) (c := .inl (0, 10, .inl g6)) r11 (by omega)
  change Ev D 1 mX4_copyFrom 130 [some (.ref a), some (.ref b), none] [] (h.set (a + 6) (.inl (0, 10, .inl g6))) 0 0 post
  obtain ⟨h, hh9⟩ : ∃ z, z = h.set (a + 6) (.inl (0, 10, .inl g6)) := ⟨_, rfl⟩
  rw [← hh9] at hB9 hU9 hl9 hLon r1n r2n r3n r4n r5n r6n r7n r8n r9n r10n r11n ⊢
  clear hh9
  have hU := hU9
  have hl := hl9
  have hLo := hLon
  have r1 := r1n
  have r2 := r2n
  have r3 := r3n
  have r4 := r4n
  have r5 := r5n
  have r6 := r6n
  have r7 := r7n
  have r8 := r8n
  have r9 := r9n
  have r10 := r10n
  have r11 := r11n
  refine e_aload_n dX4_copyFrom_130 rfl ?_
  refine e_get dX4_copyFrom_131 fl_X4_49_4 ((hU b (by omega)).trans sLo) rfl ?_
  refine e_iconst (nI 0) dX4_copyFrom_134 (by decide) ?_
  refine e_aload_n dX4_copyFrom_135 rfl ?_
  refine e_get dX4_copyFrom_136 fl_X4_49_4 hLo rfl ?_
  refine e_iconst (nI 0) dX4_copyFrom_139 (by decide) ?_
  refine e_aload_n dX4_copyFrom_140 rfl ?_
  refine e_get dX4_copyFrom_141 fl_X4_49_4 hLo rfl ?_
  refine e_alen dX4_copyFrom_144 r7 ?_
  refine e_cpi dX4_copyFrom_145 cy_X4_75 (by decide) (Nat.le_of_ble_eq_true rfl) ((hU (b + 7) (by omega)).trans s7) r7 (by decide) (by decide) (fun g7 k7 => ?_)
  have hB9 : RB (h.set (a + 7) (.inl (0, 10, .inl g7))) := hB9.set (by omega) (fun fs e => by cases e)
  have hU9 : ∀ x, (x < a ∨ a + 11 < x) → (h.set (a + 7) (.inl (0, 10, .inl g7)))[x]? = h00[x]? := fun x hx => getset (hU x hx) (by omega)
  have hl9 : (h.set (a + 7) (.inl (0, 10, .inl g7))).length = h00.length := List.length_set.trans hl
  have hLon := getset (b := a + 7) (c := .inl (0, 10, .inl g7)) hLo (by omega)
  have r1n := getset (b := a + 7) (c := .inl (0, 10, .inl g7)) r1 (by omega)
  have r2n := getset (b := a + 7) (c := .inl (0, 10, .inl g7)) r2 (by omega)
  have r3n := getset (b := a + 7) (c := .inl (0, 10, .inl g7)) r3 (by omega)
  have r4n := getset (b := a + 7) (c := .inl (0, 10, .inl g7)) r4 (by omega)
  have r5n := getset (b := a + 7) (c := .inl (0, 10, .inl g7)) r5 (by omega)
  have r6n := getset (b := a + 7) (c := .inl (0, 10, .inl g7)) r6 (by omega)
  have r7n := getself (c := .inl (0, 10, .inl g7)) r7
  have r8n := getset (b := a + 7) (c := .inl (0, 10, .inl g7)) r8 (by omega)
  have r9n := getset (b := a + 7) (c := .inl (0, 10, .inl g7)) r9 (by omega)
  have r10n := getset (b := a + 7) (c := .inl (0, 10, .inl g7)) r10 (by omega)
  have r11n := getset (b := a + 7) (c := .inl (0, 10, .inl g7)) r11 (by omega)
  change Ev D 1 mX4_copyFrom 148 [some (.ref a), some (.ref b), none] [] (h.set (a + 7) (.inl (0, 10, .inl g7))) 0 0 post
  obtain ⟨h, hh9⟩ : ∃ z, z = h.set (a + 7) (.inl (0, 10, .inl g7)) := ⟨_, rfl⟩
  rw [← hh9] at hB9 hU9 hl9 hLon r1n r2n r3n r4n r5n r6n r7n r8n r9n r10n r11n ⊢
  clear hh9
  have hU := hU9
  have hl := hl9
  have hLo := hLon
  have r1 := r1n
  have r2 := r2n
  have r3 := r3n
  have r4 := r4n
  have r5 := r5n
  have r6 := r6n
  have r7 := r7n
  have r8 := r8n
  have r9 := r9n
  have r10 := r10n
  have r11 := r11n
  refine e_aload_n dX4_copyFrom_148 rfl ?_
  refine e_get dX4_copyFrom_149 fl_X4_60_4 ((hU b (by omega)).trans sLo) rfl ?_
  refine e_iconst (nI 0) dX4_copyFrom_152 (by decide) ?_
  refine e_aload_n dX4_copyFrom_153 rfl ?_
  refine e_get dX4_copyFrom_154 fl_X4_60_4 hLo rfl ?_
  refine e_iconst (nI 0) dX4_copyFrom_157 (by decide) ?_
  refine e_aload_n dX4_copyFrom_158 rfl ?_
  refine e_get dX4_copyFrom_159 fl_X4_60_4 hLo rfl ?_
  refine e_alen dX4_copyFrom_162 r8 ?_
  refine e_cpi dX4_copyFrom_163 cy_X4_75 (by decide) (Nat.le_of_ble_eq_true rfl) ((hU (b + 8) (by omega)).trans s8) r8 (by decide) (by decide) (fun g8 k8 => ?_)
  have hB9 : RB (h.set (a + 8) (.inl (0, 6, .inl g8))) := hB9.set (by omega) (fun fs e => by cases e)
  have hU9 : ∀ x, (x < a ∨ a + 11 < x) → (h.set (a + 8) (.inl (0, 6, .inl g8)))[x]? = h00[x]? := fun x hx => getset (hU x hx) (by omega)
  have hl9 : (h.set (a + 8) (.inl (0, 6, .inl g8))).length = h00.length := List.length_set.trans hl
  have hLon := getset (b := a + 8) (c := .inl (0, 6, .inl g8)) hLo (by omega)
  have r1n := getset (b := a + 8) (c := .inl (0, 6, .inl g8)) r1 (by omega)
  have r2n := getset (b := a + 8) (c := .inl (0, 6, .inl g8)) r2 (by omega)
  have r3n := getset (b := a + 8) (c := .inl (0, 6, .inl g8)) r3 (by omega)
  have r4n := getset (b := a + 8) (c := .inl (0, 6, .inl g8)) r4 (by omega)
  have r5n := getset (b := a + 8) (c := .inl (0, 6, .inl g8)) r5 (by omega)
  have r6n := getset (b := a + 8) (c := .inl (0, 6, .inl g8)) r6 (by omega)
  have r7n := getset (b := a + 8) (c := .inl (0, 6, .inl g8)) r7 (by omega)
  have r8n := getself (c := .inl (0, 6, .inl g8)) r8
  have r9n := getset (b := a + 8) (c := .inl (0, 6, .inl g8)) r9 (by omega)
  have r10n := getset (b := a + 8) (c := .inl (0, 6, .inl g8)) r10 (by omega)
  have r11n := getset (b := a + 8) (c := .inl (0, 6, .inl g8)) r11 (by omega)
  change Ev D 1 mX4_copyFrom 166 [some (.ref a), some (.ref b), none] [] (h.set (a + 8) (.inl (0, 6, .inl g8))) 0 0 post
  obtain ⟨h, hh9⟩ : ∃ z, z = h.set (a + 8) (.inl (0, 6, .inl g8)) := ⟨_, rfl⟩
  rw [← hh9] at hB9 hU9 hl9 hLon r1n r2n r3n r4n r5n r6n r7n r8n r9n r10n r11n ⊢
  clear hh9
  have hU := hU9
  have hl := hl9
  have hLo := hLon
  have r1 := r1n
  have r2 := r2n
  have r3 := r3n
  have r4 := r4n
  have r5 := r5n
  have r6 := r6n
  have r7 := r7n
  have r8 := r8n
  have r9 := r9n
  have r10 := r10n
  have r11 := r11n
  refine e_iconst (nI 0) dX4_copyFrom_166 (by decide) ?_
  refine e_istore_n dX4_copyFrom_167 (by decide) ?_
  refine kl_cp4 D (N := N) (T := T4) ha hLo ((hU b (by omega)).trans sLo) hab ((hU (b + 4) (by omega)).trans s4) (fun h1 hV i hi y hy => hel4 h1 (fun x hx => (hV x (by omega)).trans (hU x hx)) i hi y hy) (fun h1 g4 hV lV bV rV k4 => ?_) 10 0 h _ (by omega) (fun _ _ => rfl) rfl hB9 r4 (fun i hi => absurd hi (Nat.not_lt_zero i))
  have hUn : ∀ x, (x < a ∨ a + 11 < x) → h1[x]? = h00[x]? := fun x hx => (hV x (by omega)).trans (hU x hx)
  have hln := lV.trans hl
  have hLon := (hV _ (by omega)).trans hLo
  have r1n := (hV _ (by omega)).trans r1
  have r2n := (hV _ (by omega)).trans r2
  have r3n := (hV _ (by omega)).trans r3
  have r4n := rV
  have r5n := (hV _ (by omega)).trans r5
  have r6n := (hV _ (by omega)).trans r6
  have r7n := (hV _ (by omega)).trans r7
  have r8n := (hV _ (by omega)).trans r8
  have r9n := (hV _ (by omega)).trans r9
  have r10n := (hV _ (by omega)).trans r10
  have r11n := (hV _ (by omega)).trans r11
  obtain ⟨h, hh9⟩ : ∃ z, z = h1 := ⟨_, rfl⟩
  rw [← hh9] at bV hUn hln hLon r1n r2n r3n r4n r5n r6n r7n r8n r9n r10n r11n ⊢
  clear hh9 hV lV rV
  have hB9 := bV
  have hU := hUn
  have hl := hln
  have hLo := hLon
  have r1 := r1n
  have r2 := r2n
  have r3 := r3n
  have r4 := r4n
  have r5 := r5n
  have r6 := r6n
  have r7 := r7n
  have r8 := r8n
  have r9 := r9n
  have r10 := r10n
  have r11 := r11n
  refine e_iconst (nI 0) dX4_copyFrom_195 (by decide) ?_
  refine e_istore_n dX4_copyFrom_196 (by decide) ?_
  refine kl_cp9 D (N := N) (T := R9) ha hLo ((hU b (by omega)).trans sLo) hab ((hU (b + 9) (by omega)).trans s9) (fun h1 hV i hi y hy => hel9 h1 (fun x hx => (hV x (by omega)).trans (hU x hx)) i hi y hy) (fun h1 g9 hV lV bV rV k9 => ?_) 3 0 h _ (by omega) (fun _ _ => rfl) rfl hB9 r9 (fun i hi => absurd hi (Nat.not_lt_zero i))
  have hUn : ∀ x, (x < a ∨ a + 11 < x) → h1[x]? = h00[x]? := fun x hx => (hV x (by omega)).trans (hU x hx)
  have hln := lV.trans hl
  have hLon := (hV _ (by omega)).trans hLo
  have r1n := (hV _ (by omega)).trans r1
  have r2n := (hV _ (by omega)).trans r2
  have r3n := (hV _ (by omega)).trans r3
  have r4n := (hV _ (by omega)).trans r4
  have r5n := (hV _ (by omega)).trans r5
  have r6n := (hV _ (by omega)).trans r6
  have r7n := (hV _ (by omega)).trans r7
  have r8n := (hV _ (by omega)).trans r8
  have r9n := rV
  have r10n := (hV _ (by omega)).trans r10
  have r11n := (hV _ (by omega)).trans r11
  obtain ⟨h, hh9⟩ : ∃ z, z = h1 := ⟨_, rfl⟩
  rw [← hh9] at bV hUn hln hLon r1n r2n r3n r4n r5n r6n r7n r8n r9n r10n r11n ⊢
  clear hh9 hV lV rV
  have hB9 := bV
  have hU := hUn
  have hl := hln
  have hLo := hLon
  have r1 := r1n
  have r2 := r2n
  have r3 := r3n
  have r4 := r4n
  have r5 := r5n
  have r6 := r6n
  have r7 := r7n
  have r8 := r8n
  have r9 := r9n
  have r10 := r10n
  have r11 := r11n
  have hH : ∀ x, 101 ≤ x → h[x]? = h00[x]? := fun x hx => hU x (by omega)
  refine e_vret dX4_copyFrom_224 rfl (hp _ ⟨⟨⟨hLo, ⟨g1, r1, fun v hv => (k1 v hv).trans (e1 v hv)⟩, ⟨g2, r2, fun v hv w hw => (k2 _ (by omega)).trans (e2 v hv w hw)⟩, ⟨g3, r3, fun v hv => (k3 v hv).trans (e3 v hv)⟩, ⟨g4, r4, fun t ht => ?_⟩, ⟨g5, r5, fun t ht => (k5 t (by omega)).trans (e5 t ht)⟩, ⟨g6, r6, fun t ht => (k6 t (by omega)).trans (e6 t ht)⟩, ⟨g8, r8, fun t ht => (k8 t ht).trans (e8 t ht)⟩, ⟨g9, r9, fun u hu => ?_⟩, ⟨_, r10⟩, ⟨_, r11⟩, ⟨g7, r7, fun t ht => (k7 t (by omega)).trans (e7 t ht)⟩⟩, hB9, ha⟩, ⟨g4, r4, fun t h1 h2 => (k4 t h2).trans (t5 t h1 h2)⟩, hl, hU⟩)
  · obtain ⟨y, hy, hb⟩ := e4 t ht
    exact ⟨y, (k4 t (by omega)).trans hy, hb.hi hH⟩
  · rcases e9 u hu with ⟨z, w⟩ | ⟨z, r, w, hr⟩
    · exact Or.inl ⟨z, (k9 u hu).trans w⟩
    · exact Or.inr ⟨z, r, (k9 u hu).trans w, hr.hi hH⟩
