/-- what is known of a local may be forgotten -/
theorem Ev.drop {D : En} {d : Nat} {M : Mt} {pc : Nat} {ls : List (Option Value)} {st : List Value} {h : AH} {nc ns : Nat} {post : Option Value → AH → Prop} (i : Nat) (hE : Ev D d M pc (ls.set i none) st h nc ns post) : Ev D d M pc ls st h nc ns post := by
  intro p e R s m args below meth c H locs cells slots mcT msT lsA F hH hS hL h1 h2 h3 h4
  refine hE p e R s m args below meth c H locs cells slots mcT msT lsA F hH hS ⟨hL.1, hL.2.1, fun j v hj => ?_⟩ h1 h2 h3 h4
  rw [List.getElem?_set] at hj
  split at hj
  · split at hj <;> simp at hj
  · exact hL.2.2 j v hj
section
variable {D : En} {d : Nat} {M : Mt} {pc : Nat} {ls : List (Option Value)} {st : List Value} {h : AH} {nc ns : Nat} {post : Option Value → AH → Prop}
theorem e_if_eqN {a : Nat} {off : Int} (tgt : Nat) (hd : decode M.2.1 pc = .ok (.ifCond .eq off, 3)) (ht : (pc : Int) + off = (tgt : Int)) (ha : a < 2 ^ 31) (kt : a = 0 → Ev D d M tgt ls st h nc ns post) (kf : ¬ a = 0 → Ev D d M (pc + 3) ls st h nc ns post) : Ev D d M pc ls (.int (nI a) :: st) h nc ns post :=
  e_if_eq tgt hd ht (fun z => kt ((nI_eq ha (by decide)).mp (z.trans nI_0.symm))) (fun z => kf (fun q => z (by rw [q]; exact nI_0)))
theorem e_if_neN {a : Nat} {off : Int} (tgt : Nat) (hd : decode M.2.1 pc = .ok (.ifCond .ne off, 3)) (ht : (pc : Int) + off = (tgt : Int)) (ha : a < 2 ^ 31) (kt : ¬ a = 0 → Ev D d M tgt ls st h nc ns post) (kf : a = 0 → Ev D d M (pc + 3) ls st h nc ns post) : Ev D d M pc ls (.int (nI a) :: st) h nc ns post :=
  e_if_ne tgt hd ht (fun z => kt (fun q => z (by rw [q]; exact nI_0))) (fun z => kf ((nI_eq ha (by decide)).mp (z.trans nI_0.symm)))
theorem e_if_gtN {a : Nat} {off : Int} (tgt : Nat) (hd : decode M.2.1 pc = .ok (.ifCond .gt off, 3)) (ht : (pc : Int) + off = (tgt : Int)) (ha : a < 2 ^ 31) (kt : 0 < a → Ev D d M tgt ls st h nc ns post) (kf : a = 0 → Ev D d M (pc + 3) ls st h nc ns post) : Ev D d M pc ls (.int (nI a) :: st) h nc ns post :=
  e_if_gt tgt hd ht (fun z => kt ((nI_ltI (by decide) ha).mp (show nI 0 < nI a from z))) (fun z => kf (by rcases Nat.eq_zero_or_pos a with q | q; exact q; exact absurd (show (0 : Int32) < nI a from nI_lt q ha) z))
theorem e_if_leN {a : Nat} {off : Int} (tgt : Nat) (hd : decode M.2.1 pc = .ok (.ifCond .le off, 3)) (ht : (pc : Int) + off = (tgt : Int)) (ha : a < 2 ^ 31) (kt : a = 0 → Ev D d M tgt ls st h nc ns post) (kf : 0 < a → Ev D d M (pc + 3) ls st h nc ns post) : Ev D d M pc ls (.int (nI a) :: st) h nc ns post :=
  e_if_le tgt hd ht (fun z => kt (by rcases Nat.eq_zero_or_pos a with q | q; exact q; exact absurd z (nI_nle q ha))) (fun z => kf (by rcases Nat.eq_zero_or_pos a with q | q; exact absurd (by rw [q]; exact Int32.le_refl _) z; exact q))
theorem e_if_ltN {a : Nat} {off : Int} {tgt : Nat} (hd : decode M.2.1 pc = .ok (.ifCond .lt off, 3)) (ht : (pc : Int) + off = (tgt : Int)) (ha : a < 2 ^ 31) (kf : Ev D d M (pc + 3) ls st h nc ns post) : Ev D d M pc ls (.int (nI a) :: st) h nc ns post :=
  e_if_lt tgt hd ht (fun z => absurd z (nI_pos ha)) (fun _ => kf)
theorem e_if_geN {a : Nat} {off : Int} (tgt : Nat) (hd : decode M.2.1 pc = .ok (.ifCond .ge off, 3)) (ht : (pc : Int) + off = (tgt : Int)) (ha : a < 2 ^ 31) (kt : Ev D d M tgt ls st h nc ns post) : Ev D d M pc ls (.int (nI a) :: st) h nc ns post :=
  e_if_ge tgt hd ht (fun _ => kt) (fun z => absurd (nI_pos' ha) z)
end
/-- sums and unions over 0 .. n-1 -/
def sumF (f : Nat → Int32) : Nat → Int32
  | 0 => 0
  | n + 1 => sumF f n + f n
def orF (f : Nat → Int32) : Nat → Int32
  | 0 => 0
  | n + 1 => orF f n ||| f n
theorem sumF_congr {f g : Nat → Int32} {n : Nat} (h : ∀ i, i < n → f i = g i) : sumF f n = sumF g n := by
  induction n with
  | zero => rfl
  | succ n ih => rw [sumF, sumF, ih (fun i hi => h i (by omega)), h n (by omega)]
theorem orF_congr {f g : Nat → Int32} {n : Nat} (h : ∀ i, i < n → f i = g i) : orF f n = orF g n := by
  induction n with
  | zero => rfl
  | succ n ih => rw [orF, orF, ih (fun i hi => h i (by omega)), h n (by omega)]
/-- what a row holds beyond its length doesn't matter -/
theorem Ev.junk {D : En} {d : Nat} {M : Mt} {pc : Nat} {ls : List (Option Value)} {st : List Value} {h : AH} {nc ns : Nat} {post : Option Value → AH → Prop} {b t n : Nat} {f : Nat → Int32} (f' : Nat → Int32) (hc : h[b]? = some (.inl (t, n, .inl f))) (hb : 11 ≤ b) (hf : ∀ j, j < n → f j = f' j) (k : Ev D d M pc ls st (h.set b (.inl (t, n, .inl f'))) nc ns post) : Ev D d M pc ls st h nc ns post := by
  intro p e R s m args below meth c H locs cells slots mcT msT lsA F hH hS hL h1 h2 h3 h4
  refine k p e R s m args below meth c H locs cells slots mcT msT lsA F ?_ hS hL h1 h2 h3 h4
  have hw := wsO_at (D := D) hc hb
  refine hH.set (c := .inl (t, n, .inl f')) hb (List.getElem?_eq_some_iff.mp hc).1 (hH.1.set hH.2.1 hw ?_ (fun _ _ => rfl)) (hH.2.1.set hw) (Nat.le_refl _)
  have h0 : H[ad D b]? = some (vp_cell (eC D t) (n, .inl f)) := hH.1 _ _ hw
  show H[ad D b]? = some (vp_cell (eC D t) (n, .inl f'))
  rw [h0]
  congr 1
  show arrV _ n (fun j => .int (f j)) = arrV _ n (fun j => .int (f' j))
  unfold arrV
  congr 1
  apply Array.ext
  · simp
  · intro i hi1 hi2
    simp at hi1
    simp [hf i hi1]
theorem set_set (h : AH) (a : Nat) (x y : AC) : (h.set a x).set a y = h.set a y := List.set_set x
theorem va_upS {α : Type} (σ : Nat → α) (i : Nat) (f : α) : va_up σ i f i = f := by simp [va_up]
theorem va_upN {α : Type} (σ : Nat → α) {i j : Nat} (f : α) (h : j ≠ i) : va_up σ i f j = σ j := by simp [va_up, h]
/-! THE REFERENCE'S CELLS: object 82, its rows 83 .. 100 -/
def fR (τ : Nat → Int32) : List Value := [.ref 83, .ref 84, .ref 85, .int (τ 0), .ref 86, .ref 87, .ref 88, .ref 89, .int (τ 1), .int (τ 2), .int (τ 3), .int (τ 4), .ref 90, .int (τ 5), .ref 91, .ref 92, .ref 93, .ref 94, .ref 95, .ref 96, .int (τ 6), .int (τ 7), .ref 97, .ref 98, .ref 99, .ref 100]
/-- lengths: kept 1, aside 2, errors 3, GIVES 4, comforts 5, (6 NAMED), code 7, pile 8, LEAST_RATE 9, MOST_RATE 10, arrives 11, before 12, trace 13, widths 14, sizes 15, numbers 16, carried 17 -/
def lenR (i : Nat) : Nat := match i with
  | 1 => 408 | 2 => 408 | 3 => 6 | 4 => 7 | 5 => 8 | 7 => 60 | 8 => 60 | 9 => 6 | 10 => 6 | 11 => 3 | 12 => 32 | 13 => 40 | 14 => 4 | 15 => 4 | 16 => 160 | _ => 40
/-- the outer cells that are looked at -/
def tx (i : Nat) : List Int32 := match i with
  | 0 => [117, 108, 99, 121] | 1 => [115, 119, 110] | _ => [119, 110]
def XH (h : AH) : Prop := ∀ i, i < 3 → h[4 + i]? = some (.inr (13, [.ref (7 + i), .int 0])) ∧ h[7 + i]? = some (.inl (5, (tx i).length, .inl (fun j => (tx i).getD j 0)))
def RefAt (h : AH) (N : Nat → Int32) (σ : Nat → Nat → Int32) (τ : Nat → Int32) : Prop := h[82]? = some (.inr (12, fR τ)) ∧ h[83]? = some (.inl (0, 408, .inl N)) ∧ (∀ i, i < 18 → i ≠ 0 → i ≠ 6 → h[83 + i]? = some (.inl (0, lenR i, .inl (σ i)))) ∧ (∃ g : Nat → Option Nat, (∀ i, i < 3 → g i = some (4 + i)) ∧ h[89]? = some (.inl (4, 3, .inr (.inr (.inr (.inr g)))))) ∧ XH h
def FrR (h h' : AH) : Prop := h'.length = h.length ∧ ∀ a, a < 82 ∨ 101 ≤ a → h'[a]? = h[a]?
theorem FrR.rf {h : AH} : FrR h h := ⟨rfl, fun _ _ => rfl⟩
theorem FrR.trans {h h1 h2 : AH} (a : FrR h h1) (b : FrR h1 h2) : FrR h h2 := ⟨b.1.trans a.1, fun x hx => (b.2 x hx).trans (a.2 x hx)⟩
theorem FrR.set {h h1 : AH} (a : FrR h h1) {k : Nat} (c : AC) (h1' : 82 ≤ k) (h2 : k < 101) : FrR h (h1.set k c) := by
  refine ⟨by rw [List.length_set]; exact a.1, fun x hx => ?_⟩
  rw [List.getElem?_set_ne (by omega)]
  exact a.2 x hx
theorem getset {h : AH} {a b : Nat} {c : AC} {x : Option AC} (hx : h[a]? = x) (hne : b ≠ a) : (h.set b c)[a]? = x := by
  rw [List.getElem?_set_ne hne]; exact hx
theorem getself {h : AH} {a : Nat} {c x : AC} (hx : h[a]? = some x) : (h.set a c)[a]? = some c := by
  rw [List.getElem?_set_self (List.getElem?_eq_some_iff.mp hx).1]
theorem XH.set {h : AH} (hx : XH h) {k : Nat} (c : AC) (hk : 11 ≤ k) : XH (h.set k c) := fun i hi => ⟨getset (hx i hi).1 (by omega), getset (hx i hi).2 (by omega)⟩
theorem RefAt.stN {h : AH} {N : Nat → Int32} {σ : Nat → Nat → Int32} {τ : Nat → Int32} (hR : RefAt h N σ τ) (N' : Nat → Int32) : RefAt (h.set 83 (.inl (0, 408, .inl N'))) N' σ τ := by
  obtain ⟨h1, h2, h3, ⟨g, g1, g2⟩, h4⟩ := hR
  exact ⟨getset h1 (by decide), getself h2, fun i a b c => getset (h3 i a b c) (by omega), ⟨g, g1, getset g2 (by decide)⟩, h4.set _ (by decide)⟩
theorem RefAt.st {h : AH} {N : Nat → Int32} {σ : Nat → Nat → Int32} {τ : Nat → Int32} (hR : RefAt h N σ τ) (i : Nat) (f : Nat → Int32) (hi : i < 18) (h0 : i ≠ 0) (h6 : i ≠ 6) : RefAt (h.set (83 + i) (.inl (0, lenR i, .inl f))) N (va_up σ i f) τ := by
  obtain ⟨h1, h2, h3, ⟨g, g1, g2⟩, h4⟩ := hR
  refine ⟨getset h1 (by omega), getset h2 (by omega), fun j a b c => ?_, ⟨g, g1, getset g2 (by omega)⟩, h4.set _ (by omega)⟩
  by_cases e : j = i
  · subst e
    rw [getself (h3 j a b c)]
    simp [va_up]
  · rw [getset (h3 j a b c) (by omega)]
    simp [va_up, e]
theorem RefAt.fl {h : AH} {N : Nat → Int32} {σ : Nat → Nat → Int32} {τ : Nat → Int32} (hR : RefAt h N σ τ) (τ' : Nat → Int32) : RefAt (h.set 82 (.inr (12, fR τ'))) N σ τ' := by
  obtain ⟨h1, h2, h3, ⟨g, g1, g2⟩, h4⟩ := hR
  exact ⟨getself h1, getset h2 (by decide), fun i a b c => getset (h3 i a b c) (by omega), ⟨g, g1, getset g2 (by decide)⟩, h4.set _ (by decide)⟩
theorem RefAt.cn {h : AH} {N : Nat → Int32} {σ : Nat → Nat → Int32} {τ : Nat → Int32} (hR : RefAt h N σ τ) : CN h 82 RX12 := Or.inl ⟨12, fR τ, _, hR.1, rfl, rfl⟩
section
variable {D : En} {d : Nat} {M : Mt} {pc : Nat} {ls : List (Option Value)} {st : List Value} {h h0 : AH} {nc ns : Nat} {post : Option Value → AH → Prop} {N : Nat → Int32} {σ : Nat → Nat → Int32} {τ : Nat → Int32}
/-- a store into the row of numbers -/
theorem r_stN {i x : Int32} (k : Nat) (hd : decode M.2.1 pc = .ok (.iastore, 1)) (hR : RefAt h N σ τ) (hF : FrR h0 h) (hi : i = nI k) (hk : k < 408) (kk : ∀ h', RefAt h' (upd N k x) σ τ → FrR h0 h' → Ev D d M (pc + 1) ls st h' nc ns post) : Ev D d M pc ls (.int x :: .int i :: .ref 83 :: st) h nc ns post :=
  e_ist k hd hR.2.1 hi hk (by decide) (kk _ (hR.stN _) (hF.set _ (by decide) (by decide)))
/-- a store into another row -/
theorem r_st {i x : Int32} {a : Nat} (j k : Nat) (hd : decode M.2.1 pc = .ok (.iastore, 1)) (hR : RefAt h N σ τ) (hF : FrR h0 h) (ha : a = 83 + j) (hj : j < 18 ∧ j ≠ 0 ∧ j ≠ 6) (hi : i = nI k) (hk : k < lenR j) (kk : ∀ h', RefAt h' N (va_up σ j (upd (σ j) k x)) τ → FrR h0 h' → Ev D d M (pc + 1) ls st h' nc ns post) : Ev D d M pc ls (.int x :: .int i :: .ref a :: st) h nc ns post := by
  subst ha
  refine e_ist k hd (hR.2.2.1 j hj.1 hj.2.1 hj.2.2) hi hk (by unfold lenR; split <;> decide) (kk _ (hR.st j _ hj.1 hj.2.1 hj.2.2) (hF.set _ (by omega) (by omega)))
/-- a store into an int field -/
theorem r_put {idx k : Nat} {x : Int32} (τ' : Nat → Int32) (hd : decode M.2.1 pc = .ok (.putfield idx, 3)) (hf : FL M.1.cls idx 12 k) (hR : RefAt h N σ τ) (hF : FrR h0 h) (hfin : (TX12 k).2.2.2 = false) (hk : k < 26) (hn : narrow (tyX12 k) (.int x) = .int x) (hfit : fits (tyX12 k) (.int x) = true) (hτ : (fR τ).set k (.int x) = fR τ') (kk : ∀ h', RefAt h' N σ τ' → FrR h0 h' → Ev D d M (pc + 3) ls st h' nc ns post) : Ev D d M pc ls (.int x :: .ref 82 :: st) h nc ns post :=
  e_put hd hf ft_12 (fun q hq => Or.inl (by cases hq; exact hfin)) hR.1 hk hn hfit (by rw [hτ]; exact kk _ (hR.fl _) (hF.set _ (by decide) (by decide)))
end
