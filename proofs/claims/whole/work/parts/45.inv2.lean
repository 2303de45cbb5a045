/-! what each call keeps -/
theorem TW_ag {N N' : Nat → Int32} {t : Nat} (h : TW N t) (e0 : N' (112 + 7 * t + 0) = N (112 + 7 * t + 0)) (e1 : N' (112 + 7 * t + 1) = N (112 + 7 * t + 1)) : TW N' t := by
  unfold TW kdN atN at *
  rw [e0, e1]
  exact h
theorem TXW_ag {N N' : Nat → Int32} {u : Nat} {tx : List Nat} (h : TXW N u tx) (e : ∀ j, 252 ≤ j → N' j = N j) : TXW N' u tx := by
  obtain ⟨g1, g2, g3, g4⟩ := h
  exact ⟨g1, by rw [e _ (by omega)]; exact g2, fun i hi => by rw [e _ (by omega)]; exact g3 i hi, g4⟩
theorem setR_ag {N : Nat → Int32} {v : Nat} {p y g o : Int32} {j : Nat} (h1 : j ≠ 1) (h2 : j < 16 + 4 * v ∨ 16 + 4 * v + 4 ≤ j) : setR N v p y g o j = N j := by
  unfold setR
  rw [pk_un h1, pk_un (by omega), pk_un (by omega), pk_un (by omega), pk_un (by omega)]
theorem PW_free {N : Nat → Int32} {k : Nat} {x : Int32} (h : PW N) (h1 : ∀ v, v < 8 → ∀ w, w < 3 → k ≠ 16 + 4 * v + 1 + w) (h2 : k < 48 ∨ 112 ≤ k) (h3 : ∀ t, t < 10 → k ≠ 112 + 7 * t + 5 ∧ k ≠ 112 + 7 * t + 2) (h4 : k < 182 ∨ 232 ≤ k) (h5 : k < 7 ∨ 11 ≤ k) : PW (upd N k x) :=
  PW_upd h (fun v hv w hw e => absurd e (h1 v hv w hw)) h2 (fun t ht => ⟨fun e => absurd e (h3 t ht).1, fun e => absurd e (h3 t ht).2⟩) (fun i hi e => by omega) (fun i hi e => by omega)
theorem PW_set {N : Nat → Int32} {v : Nat} {p y g o : Int32} (h : PW N) (hv : v < 8) (hy : rg y 99999) (hg : rg g 99999) (ho : rg o 99999) : PW (setR N v p y g o) := by
  unfold setR
  exact PW_other (PW_pe (w := 2) (PW_pe (w := 1) (PW_pe (w := 0) (PW_free h (fun v hv w hw => by omega) (by omega) (fun t ht => by omega) (by omega) (by omega)) hv (by decide) hy) hv (by decide) hg) hv (by decide) ho) (by omega)
theorem nvN_of {N : Nat → Int32} {v : Nat} (h : N 1 = nI v) (hv : v < 2 ^ 31) : nvN N = v := by unfold nvN; rw [h]; exact tn_nI hv
theorem tcN_of {N : Nat → Int32} {v : Nat} (h : N 2 = nI v) (hv : v < 2 ^ 31) : tcN N = v := by unfold tcN; rw [h]; exact tn_nI hv
theorem IN_set {N : Nat → Int32} {v : Nat} {p y g o : Int32} (h : IN N) (hv : nvN N = v) (hv8 : v < 8) (hy : rg y 99999) (hg : rg g 99999) (ho : rg o 99999) : IN (setR N v p y g o) := by
  obtain ⟨⟨y1, y2, y3, y4, y5, y6⟩, h2, h3, h4, h5⟩ := h
  have e1 : setR N v p y g o 1 = nI (v + 1) := pk_us
  have e2 : setR N v p y g o 2 = N 2 := setR_ag (by decide) (by omega)
  have e3 : setR N v p y g o 3 = N 3 := setR_ag (by decide) (by omega)
  have e4 : setR N v p y g o 4 = N 4 := setR_ag (by decide) (by omega)
  have eT : ∀ j, 252 ≤ j → setR N v p y g o j = N j := fun j hj => setR_ag (by omega) (by omega)
  have etc : tcN (setR N v p y g o) = tcN N := by unfold tcN; rw [e2]
  refine ⟨?_, by unfold tlN; rw [e3]; exact h2, by unfold wlN; rw [e4]; exact h3, PW_set h4 hv8 hy hg ho, by rw [txN_ag eT]; exact h5⟩
  rw [nvN_of e1 (by omega), txN_ag eT, etc]
  exact ⟨e1, by omega, by rw [e2]; exact y3, y4, fun t ht => TW_ag (y5 t ht) (setR_ag (by omega) (by omega)) (setR_ag (by omega) (by omega)), fun u hu => TXW_ag (y6 u hu) eT⟩
theorem rg_dr (z : Int32) (b : Nat) (hb : 0 < b) (hb2 : b < 1000) : rg (drV z (nI b)) 99999 := by
  unfold drV
  have e1 : (z.toUInt32 >>> ((nI 8).toUInt32 &&& Int32.toUInt32 31)).toInt32 = nI ((z.toUInt32 >>> ((nI 8).toUInt32 &&& Int32.toUInt32 31)).toInt32.toBitVec.toNat) := by
    apply Int32.toBitVec_inj.mp
    apply BitVec.eq_of_toNat_eq
    rw [pk_tn (BitVec.isLt _)]
  have e2 : (z.toUInt32 >>> ((nI 8).toUInt32 &&& Int32.toUInt32 31)).toInt32.toBitVec.toNat < 2 ^ 31 := by
    rw [pk_ushr z (nI 8) 8 (by decide)]
    have := z.toBitVec.isLt
    omega
  rw [e1, pk_rem e2 hb (by omega)]
  have := Nat.mod_lt ((z.toUInt32 >>> ((nI 8).toUInt32 &&& Int32.toUInt32 31)).toInt32.toBitVec.toNat) hb
  exact rg_nI (by omega) (by decide)
theorem IN_md {N : Nat → Int32} {v k : Nat} (h : IN N) (hv : nvN N = v) (hk : v + k ≤ 8) : IN (mdN N v k) ∧ nvN (mdN N v k) = v + k := by
  induction k with
  | zero => exact ⟨h, hv⟩
  | succ k ih =>
    obtain ⟨i1, i2⟩ := ih (by omega)
    rw [mdN]
    unfold mdS
    refine ⟨IN_set (IN_up i1 (by unfold FI; omega) (by omega) (PW_other i1.2.2.2.1 (by omega))) ?_ (by omega) (rg_dr _ _ (by decide) (by decide)) (rg_dr _ _ (by decide) (by decide)) (rg_dr _ _ (by decide) (by decide)), nvN_of pk_us (by omega)⟩
    exact i2
theorem IN_vi (Q : Nat → Int32) (b z : Nat) : ∀ (k n v : Nat) (N : Nat → Int32), IN N → nvN N = v → IN (viW Q b z k n v N).2 := by
  intro k
  induction k with
  | zero => intro n v N h _; exact h
  | succ k ih =>
    intro n v N h hv
    rw [viW]
    split
    · split
      · rename_i hv8
        split
        · rename_i ht
          exact ih _ _ _ (IN_set h hv hv8 ht.2.2.1 ht.2.2.2.1 ht.2.2.2.2) (nvN_of pk_us (by omega))
        · exact h
      · exact h
    · exact h
theorem PW_mend {N : Nat → Int32} {a b : Nat} {x : Int32} (h : PW N) (ha : a < 8) (hb : b < 8) (hx : rg x 1) : PW (upd (upd N (48 + 8 * b + a) x) (48 + 8 * a + b) x) := by
  obtain ⟨g1, g2, g3, g4, g5⟩ := h
  refine ⟨fun v hv w hw => ?_, fun c hc d hd => ?_, fun t ht => ?_, fun i hi => ?_, fun i hi => ?_⟩
  · rw [pk_un (by omega), pk_un (by omega)]; exact g1 v hv w hw
  · have key : ∀ c, c < 8 → ∀ d, d < 8 → upd (upd N (48 + 8 * b + a) x) (48 + 8 * a + b) x (48 + 8 * c + d) = if (c = a ∧ d = b) ∨ (c = b ∧ d = a) then x else N (48 + 8 * c + d) := by
      intro c hc d hd
      by_cases z1 : c = a ∧ d = b
      · rw [if_pos (Or.inl z1), z1.1, z1.2, pk_us]
      · rw [pk_un (by omega)]
        by_cases z2 : c = b ∧ d = a
        · rw [if_pos (Or.inr z2), z2.1, z2.2, pk_us]
        · rw [if_neg (by omega), pk_un (by omega)]
    rw [key c hc d hd, key d hd c hc]
    by_cases z : (c = a ∧ d = b) ∨ (c = b ∧ d = a)
    · rw [if_pos z, if_pos (by omega)]; exact ⟨hx, rfl⟩
    · rw [if_neg z, if_neg (by omega)]; exact g2 c hc d hd
  · rw [pk_un (by omega), pk_un (by omega), pk_un (by omega), pk_un (by omega)]; exact g3 t ht
  · rw [pk_un (by omega), pk_un (by omega)]; exact g4 i hi
  · rw [pk_un (by omega), pk_un (by omega)]; exact g5 i hi
theorem standR_ag {N : Nat → Int32} {t : Nat} {k a c l r : Int32} {j : Nat} (h1 : j ≠ 2) (h2 : j < 112 + 7 * t ∨ 112 + 7 * t + 7 ≤ j) : standR N t k a c l r j = N j := by
  unfold standR
  rw [pk_un h1, pk_un (by omega), pk_un (by omega), pk_un (by omega), pk_un (by omega), pk_un (by omega), pk_un (by omega), pk_un (by omega)]
theorem PW_stand {N : Nat → Int32} {t : Nat} {k a c l r : Int32} (h : PW N) (ht : t < 10) (hc : rg c 999) : PW (standR N t k a c l r) := by
  have fr : ∀ {M : Nat → Int32} {x : Int32} (i : Nat), i < 7 → i ≠ 5 → i ≠ 2 → PW M → PW (upd M (112 + 7 * t + i) x) := fun i hi h5 h2 hM => PW_free hM (fun v hv w hw => by omega) (by omega) (fun t ht => by omega) (by omega) (by omega)
  unfold standR
  refine PW_other (fr 6 (by decide) (by decide) (by decide) (PW_op (fr 4 (by decide) (by decide) (by decide) (fr 3 (by decide) (by decide) (by decide) (PW_upd (fr 1 (by decide) (by decide) (by decide) (fr 0 (by decide) (by decide) (by decide) h)) (fun v hv w hw e => by omega) (by omega) (fun t' ht' => ⟨fun e => by omega, fun e => hc⟩) (fun i hi e => by omega) (fun i hi e => by omega)))) ht (rg_nI (by decide) (by decide)))) (by omega)
theorem IN_stand {N : Nat → Int32} {t : Nat} {kn an : Nat} {c l r : Int32} (h : IN N) (ht : tcN N = t) (ht10 : t < 10) (hk : kn < 7) (ha : an < 8) (hc : rg c 999) : IN (standR N t (nI kn) (nI an) c l r) := by
  obtain ⟨⟨y1, y2, y3, y4, y5, y6⟩, h2, h3, h4, h5⟩ := h
  have e2 : standR N t (nI kn) (nI an) c l r 2 = nI (t + 1) := pk_us
  have e1 : standR N t (nI kn) (nI an) c l r 1 = N 1 := standR_ag (by decide) (by omega)
  have e3 : standR N t (nI kn) (nI an) c l r 3 = N 3 := standR_ag (by decide) (by omega)
  have e4 : standR N t (nI kn) (nI an) c l r 4 = N 4 := standR_ag (by decide) (by omega)
  have eT : ∀ j, 252 ≤ j → standR N t (nI kn) (nI an) c l r j = N j := fun j hj => standR_ag (by omega) (by omega)
  have env : nvN (standR N t (nI kn) (nI an) c l r) = nvN N := by unfold nvN; rw [e1]
  refine ⟨?_, by unfold tlN; rw [e3]; exact h2, by unfold wlN; rw [e4]; exact h3, PW_stand h4 ht10 hc, by rw [txN_ag eT]; exact h5⟩
  rw [tcN_of e2 (by omega), txN_ag eT, env]
  refine ⟨by rw [e1]; exact y1, y2, e2, by omega, fun t' ht' => ?_, fun u hu => TXW_ag (y6 u hu) eT⟩
  by_cases z : t' = t
  · subst z
    have f0 : standR N t' (nI kn) (nI an) c l r (112 + 7 * t' + 0) = nI kn := by
      unfold standR
      rw [pk_un (by omega), pk_un (by omega), pk_un (by omega), pk_un (by omega), pk_un (by omega), pk_un (by omega), pk_un (by omega), pk_us]
    have f1 : standR N t' (nI kn) (nI an) c l r (112 + 7 * t' + 1) = nI an := by
      unfold standR
      rw [pk_un (by omega), pk_un (by omega), pk_un (by omega), pk_un (by omega), pk_un (by omega), pk_un (by omega), pk_us]
    unfold TW kdN atN
    rw [f0, f1, nI_clamp (by omega), nI_clamp (by omega)]
    exact ⟨rfl, hk, rfl, ha⟩
  · exact TW_ag (y5 t' (by omega)) (standR_ag (by omega) (by omega)) (standR_ag (by omega) (by omega))
theorem rg_by (w : Int64) (k : Nat) : rg (byW w k) 255 := by
  unfold byW
  generalize (w >>> ((nI (8 * k)).toInt64 &&& 63)) = z
  have e1 : (z &&& 255).toBitVec.toNat ≤ 255 := by
    rw [Int64.toBitVec_and, BitVec.toNat_and]
    exact Nat.and_le_right
  have e2 : (z &&& 255).toInt32 = nI (z &&& 255).toBitVec.toNat := by
    apply Int32.toBitVec_inj.mp
    apply BitVec.eq_of_toNat_eq
    rw [pk_tn (by omega), Int64.toBitVec_toInt32, BitVec.signExtend_eq_setWidth_of_le _ (by decide), BitVec.toNat_setWidth]
    exact Nat.mod_eq_of_lt (by omega)
  rw [e2]
  exact rg_nI e1 (by decide)
theorem IN_tl {N : Nat → Int32} (h : IN N) {l : Nat} (hl : l ≤ 50) : IN (upd N 3 (nI l)) := by
  obtain ⟨h1, h2, h3, h4, h5⟩ := h
  refine ⟨?_, ⟨?_, ?_⟩, ?_, PW_other h4 (by omega), by rw [txN_upd _ (by decide)]; exact h5⟩
  · show YW (upd N 3 (nI l)) (nvN N) (tcN N) (txN (upd N 3 (nI l)))
    rw [txN_upd _ (by decide)]
    exact YW_upd h1 (by unfold FI; omega)
  · show upd N 3 (nI l) 3 = nI (tn (upd N 3 (nI l) 3))
    rw [pk_us, tn_nI (by omega)]
  · show tn (upd N 3 (nI l) 3) ≤ 50
    rw [pk_us, tn_nI (by omega)]; exact hl
  · exact h3
theorem IN_fd {N : Nat → Int32} (h : IN N) (w : Int64) (l n : Nat) (hl : l + n ≤ 50) : IN (fdW w N l n) := by
  induction n with
  | zero => exact h
  | succ n ih =>
    rw [fdW]
    have i1 := ih (by omega)
    exact IN_tl (IN_up i1 (by unfold FI; omega) (by omega) (PW_upd i1.2.2.2.1 (fun v hv w hw e => by omega) (by omega) (fun t ht => ⟨fun e => by omega, fun e => by omega⟩) (fun i hi e => rg_by _ _) (fun i hi e => by omega))) (by omega)
theorem IN_wl {N : Nat → Int32} (h : IN N) {l : Nat} (hl : l ≤ 20) : IN (upd N 4 (nI l)) := by
  obtain ⟨h1, h2, h3, h4, h5⟩ := h
  refine ⟨?_, h2, ⟨?_, ?_⟩, PW_other h4 (by omega), by rw [txN_upd _ (by decide)]; exact h5⟩
  · show YW (upd N 4 (nI l)) (nvN N) (tcN N) (txN (upd N 4 (nI l)))
    rw [txN_upd _ (by decide)]
    exact YW_upd h1 (by unfold FI; omega)
  · show upd N 4 (nI l) 4 = nI (tn (upd N 4 (nI l) 4))
    rw [pk_us, tn_nI (by omega)]
  · show tn (upd N 4 (nI l) 4) ≤ 20
    rw [pk_us, tn_nI (by omega)]; exact hl
theorem cpW_get (c : List Nat) (b : Nat) (N : Nat → Int32) (n j : Nat) : cpW c b N n j = if b ≤ j ∧ j < b + n then nI (c.getD (j - b) 0) else N j := by
  induction n with
  | zero => rw [if_neg (by omega)]; rfl
  | succ n ih =>
    rw [cpW]
    by_cases e : j = b + n
    · subst e
      rw [pk_us, if_pos (by omega), show b + n - b = n by omega]
    · rw [pk_un e, ih]
      by_cases z : b ≤ j ∧ j < b + n
      · rw [if_pos z, if_pos (by omega)]
      · rw [if_neg z, if_neg (by omega)]
theorem txM_get (N : Nat → Int32) (y : PT) (u j : Nat) : txM N y u j = if 252 + 52 * u + 1 ≤ j ∧ j < 252 + 52 * u + 1 + y.2.2.length then nI (y.2.2.getD (j - (252 + 52 * u + 1)) 0) else if j = 252 + 52 * u then nI y.2.2.length else if j = 3 then nI 0 else N j := by
  unfold txM
  rw [cpW_get]
  by_cases z : 252 + 52 * u + 1 ≤ j ∧ j < 252 + 52 * u + 1 + y.2.2.length
  · rw [if_pos z, if_pos z]
  · rw [if_neg z, if_neg z]
    by_cases e : j = 252 + 52 * u
    · rw [if_pos e, e, pk_us]
    · rw [if_neg e, pk_un e]
      by_cases e3 : j = 3
      · rw [if_pos e3, e3, pk_us]
      · rw [if_neg e3, pk_un e3]

theorem i_people {s : SS} (hI : INV s) (v : Int32) (w : Int32) : INV (f_people s v w).2 := by
  unfold f_people
  (repeat' split) <;> exact hI
theorem i_way {s : SS} (hI : INV s) (a : Int32) (b : Int32) : INV (f_way s a b).2 := by
  unfold f_way
  (repeat' split) <;> exact hI
theorem i_ofThing {s : SS} (hI : INV s) (t : Int32) (w : Int32) : INV (f_ofThing s t w).2 := by
  unfold f_ofThing
  (repeat' split) <;> exact hI
theorem i_as {s : SS} (hI : INV s) (t : Int32) (k : Int32) : INV (f_as s t k).2 := by
  unfold f_as
  (repeat' split) <;> exact hI
theorem i_comfort {s : SS} (hI : INV s) (v : Int32) : INV (f_comfort s v).2 := by
  unfold f_comfort
  (repeat' split) <;> exact hI
theorem i_haven {s : SS} (hI : INV s)  : INV (f_haven s ).2 := by
  unfold f_haven
  (repeat' split) <;> exact hI
theorem i_law {s : SS} (hI : INV s) (u : Int32) (a : Int32) (b : Int32) (c : Int32) : INV (f_law s u a b c).2 := by
  unfold f_law
  (repeat' split) <;> exact hI
theorem i_left {s : SS} (hI : INV s) (n : Int32) (w : Int32) : INV (f_left s n w).2 := by
  unfold f_left
  (repeat' split) <;> exact hI
theorem i_then {s : SS} (hI : INV s) (n : Int32) (v : Int32) (w : Int32) : INV (f_then s n v w).2 := by
  unfold f_then
  (repeat' split) <;> exact hI
theorem i_falls {s : SS} (hI : INV s) (v : Int32) (n : Int32) : INV (f_falls s v n).2 := by
  unfold f_falls
  (repeat' split) <;> exact hI
theorem i_broke {s : SS} (hI : INV s) (n : Int32) : INV (f_broke s n).2 := by
  unfold f_broke
  (repeat' split) <;> exact hI
theorem i_rest {s : SS} (hI : INV s) (n : Int32) : INV (f_rest s n).2 := by
  unfold f_rest
  (repeat' split) <;> exact hI
theorem i_keep {s : SS} (hI : INV s) (c : Int32) (n : Int32) (w : Int32) : INV (f_keep s c n w).2 := by
  unfold f_keep
  (repeat' split) <;> exact hI
theorem i_when {s : SS} (hI : INV s) (t : Int32) (n : Int32) : INV (f_when s t n).2 := by
  unfold f_when
  (repeat' split) <;> exact hI
theorem i_worth {s : SS} (hI : INV s) (t : Int32) (n : Int32) : INV (f_worth s t n).2 := by
  unfold f_worth
  (repeat' split) <;> exact hI
theorem i_promised {s : SS} (hI : INV s) (t : Int32) (y : Int32) (n : Int32) : INV (f_promised s t y n).2 := by
  unfold f_promised
  (repeat' split) <;> exact hI
theorem i_edge {s : SS} (hI : INV s) (t : Int32) (n : Int32) : INV (f_edge s t n).2 := by
  unfold f_edge
  (repeat' split) <;> exact hI
theorem i_site {s : SS} (hI : INV s) (a : Int32) (b : Int32) : INV (f_site s a b).2 := by
  unfold f_site
  (repeat' split) <;> exact hI
theorem i_road {s : SS} (hI : INV s) (n : Int32) : INV (f_road s n).2 := by
  unfold f_road
  (repeat' split) <;> exact hI
theorem i_trace {s : SS} (hI : INV s) (i : Int32) : INV (f_trace s i).2 := by
  unfold f_trace
  (repeat' split) <;> exact hI
theorem i_count {s : SS} (hI : INV s) (w : Int32) : INV (f_count s w).2 := by
  unfold f_count
  (repeat' split) <;> exact hI
theorem i_told {s : SS} (hI : INV s) (k : Int32) : INV (f_told s k).2 := by
  unfold f_told
  (repeat' split) <;> exact hI
theorem i_put {s : SS} (hI : INV s) (g : Int32) (i : Int32) (x : Int32) : INV (f_put s g i x).2 := by
  unfold f_put
  (repeat' split) <;> exact hI
theorem i_move {s : SS} (hI : INV s) (g : Int32) (i : Int32) (e : Int32) (j : Int32) (n : Int32) : INV (f_move s g i e j n).2 := by
  unfold f_move
  (repeat' split) <;> exact hI
theorem i_voice {s : SS} (hI : INV s) (t a x : Int32) : INV (f_voice s t a x).2 := by
  unfold f_voice
  (repeat' split) <;> exact hI
theorem i_village {s : SS} (hI : INV s) (p y g o : Int32) : INV (f_village s p y g o).2 := by
  unfold f_village
  split
  · rename_i ht
    split
    · exact hI
    · rename_i h8
      have := hI.1.1.2.1
      exact hI.N (IN_set hI.1 rfl (by omega) ht.2.2.1 ht.2.2.2.1 ht.2.2.2.2)
  · exact hI
theorem i_become {s : SS} (hI : INV s) (v w x : Int32) : INV (f_become s v w x).2 := by
  unfold f_become
  have h8 := hI.1.1.2.1
  split
  · rename_i c1
    split
    · rename_i c2
      split
      · rename_i c3
        obtain ⟨-, hl⟩ := isN c1 hI.1.1.1 (by omega)
        obtain ⟨-, -, hw⟩ := wiN c2 (by decide) (by decide)
        exact hI.N (IN_up hI.1 (FI_pe (by omega) (by omega)) (by omega) (PW_pe hI.1.2.2.2.1 (by omega) (by omega) c3))
      · exact hI
    · exact hI
  · exact hI
theorem i_villages {s : SS} (hI : INV s) (g : Int32) : INV (f_villages s g).2 := by
  unfold f_villages
  split
  · split
    · exact hI
    · exact hI.N (IN_vi _ _ _ _ _ _ _ hI.1 rfl)
  · exact hI
theorem i_made {s : SS} (hI : INV s) (n : Int32) : INV (f_made s n).2 := by
  unfold f_made
  split
  · split
    · exact hI
    · exact hI.N (IN_md hI.1 rfl (by omega)).1
  · exact hI
theorem i_pace {s : SS} (hI : INV s) (x : Int32) : INV (f_pace s x).2 := by
  unfold f_pace
  split
  · exact hI.N (IN_up hI.1 (by unfold FI; omega) (by omega) (PW_other hI.1.2.2.2.1 (by omega)))
  · exact hI
theorem i_seed {s : SS} (hI : INV s) (x : Int32) : INV (f_seed s x).2 := hI.N (IN_up hI.1 (by unfold FI; omega) (by omega) (PW_other hI.1.2.2.2.1 (by omega)))
theorem i_mend {s : SS} (hI : INV s) (a b x : Int32) : INV (f_mend s a b x).2 := by
  unfold f_mend
  have h8 := hI.1.1.2.1
  split
  · rename_i c1
    split
    · rename_i c2
      split
      · exact hI
      · split
        · rename_i c3
          obtain ⟨-, ha⟩ := isN c1 hI.1.1.1 (by omega)
          obtain ⟨-, hb⟩ := isN c2 hI.1.1.1 (by omega)
          have h1 := hI.1
          have hP := PW_mend h1.2.2.2.1 (a := tn a) (b := tn b) (by omega) (by omega) c3
          refine hI.N (JW.IN (N0 := sN s) ⟨hP, ?_, ?_, ?_, ?_, fun j hj => ?_⟩ h1 (YW_upd (YW_upd h1.1 (by unfold FI; omega)) (by unfold FI; omega)))
          all_goals rw [pk_un (by omega), pk_un (by omega)]
        · exact hI
    · exact hI
  · exact hI
theorem i_thing {s : SS} (hI : INV s) (kv c l r : Int32) : INV (f_thing s kv c l r).2 := by
  unfold f_thing
  have h8 := hI.1.1.2.1
  have h10 := hI.1.1.2.2.2.1
  split
  · rename_i c1
    split
    · rename_i c2
      split
      · rename_i c3
        split
        · split
          · split
            · exact hI
            · obtain ⟨-, -, hk⟩ := wiN c1 (by decide) (by decide)
              obtain ⟨-, ha⟩ := isN c2 hI.1.1.1 (by omega)
              rw [tn_nI (by omega)] at ha
              exact hI.N (IN_stand hI.1 rfl (by omega) (by omega) (by omega) c3)
          · exact hI
        · exact hI
      · exact hI
    · exact hI
  · exact hI
theorem i_open {s : SS} (hI : INV s) (t x : Int32) : INV (f_open s t x).2 := by
  unfold f_open
  have h10 := hI.1.1.2.2.2.1
  split
  · rename_i c1
    split
    · rename_i c2
      obtain ⟨-, hl⟩ := isN c1 hI.1.1.2.2.1 (by omega)
      exact hI.N (IN_up hI.1 (by unfold FI; omega) (by omega) (PW_op hI.1.2.2.2.1 (by omega) c2))
    · exact hI
  · exact hI
theorem i_promise {s : SS} (hI : INV s) (t x : Int32) : INV (f_promise s t x).2 := by
  unfold f_promise
  have h10 := hI.1.1.2.2.2.1
  split
  · rename_i c1
    split
    · obtain ⟨-, hl⟩ := isN c1 hI.1.1.2.2.1 (by omega)
      exact hI.N (IN_up hI.1 (by unfold FI; omega) (by omega) (PW_free hI.1.2.2.2.1 (fun v hv w hw => by omega) (by omega) (fun t ht => by omega) (by omega) (by omega)))
    · exact hI
  · exact hI
theorem i_feed {s : SS} (hI : INV s) (w : Int64) (n : Int32) : INV (f_feed s w n).2 := by
  unfold f_feed
  split
  · split
    · exact hI
    · exact hI.N (IN_fd hI.1 w _ _ (by omega))
  · exact hI
theorem rHi_50 : ∀ r, r < 4 → rHi r ≤ nI 50 := by decide
theorem rLo_0 : ∀ r, r < 4 → rLo r = nI 0 := by decide
theorem i_rate {s : SS} (hI : INV s) (r x : Int32) : INV (f_rate s r x).2 := by
  unfold f_rate
  split
  · rename_i c1
    split
    · rename_i c2
      obtain ⟨-, -, hl⟩ := wiN c1 (by decide) (by decide)
      refine hI.N (IN_up hI.1 (by unfold FI; omega) (by omega) (PW_upd hI.1.2.2.2.1 (fun v hv w hw e => by omega) (by omega) (fun t ht => ⟨fun e => by omega, fun e => by omega⟩) (fun i hi e => by omega) (fun i hi e => ?_)))
      have e9 : tn r = i := by omega
      rw [e9] at c2
      exact ⟨by rw [← rLo_0 i hi]; exact c2.1, Int32.le_trans c2.2 (rHi_50 i hi)⟩
    · exact hI
  · exact hI
theorem i_years {s : SS} (hI : INV s) (n : Int32) : INV (f_years s n).2 := by
  unfold f_years
  split
  · split
    · exact hI.N (IN_yr hI.1 _)
    · exact hI
  · exact hI
theorem i_sheet {s : SS} (hI : INV s) (g b n : Int32) : INV (f_sheet s g b n).2 := by
  have key : ∀ (w : Nat) (z : Int32), rg z 40 → INV (shS s w b z) := fun w z hz => by
    refine ⟨hI.1, hI.2.1, fun i hi => ?_⟩
    show upd (sZ s) w z i = nI (tn (upd (sZ s) w z i)) ∧ tn (upd (sZ s) w z i) ≤ 40
    by_cases e : i = w
    · subst e
      rw [pk_us]
      obtain ⟨a, -, c⟩ := wiN hz (by decide) (by decide)
      exact ⟨a, c⟩
    · rw [pk_un e]; exact hI.2.2 i hi
  unfold f_sheet
  split
  · split
    · exact key _ _ (rg_nI (by decide) (by decide))
    · split
      · split
        · rename_i c1
          split
          · rename_i c2; exact key _ _ ⟨c1, c2⟩
          · exact hI
        · exact hI
      · exact hI
  · exact hI
theorem i_image {s : SS} (hI : INV s) : INV (f_image s).2 := ⟨hI.1, Or.inr hI.1, hI.2.2⟩
theorem i_restore {s : SS} (hI : INV s) : INV (f_restore s).2 := by
  unfold f_restore
  split
  · exact hI
  · rename_i c1
    rcases hI.2.1 with z | z
    · exact absurd z c1
    · exact hI.N z
theorem i_tell {s : SS} (hI : INV s) (x : Int32) : INV (f_tell s x).2 := by
  unfold f_tell
  have h20 := hI.1.2.2.1.2
  split
  · exact hI
  · exact hI.N (IN_wl (IN_up hI.1 (by unfold FI; omega) (by omega) (PW_other hI.1.2.2.2.1 (by omega))) (by omega))
theorem i_check {s : SS} (hI : INV s) (n : Int32) : INV (f_check s n).2 := by
  unfold f_check
  split
  · exact INV_wt hI
  · exact INV_wt hI
theorem IN_shut2 {N : Nat → Int32} (h : IN N) {a b : Nat} (ha : a < 10) (hb : b < 10) : IN (shut2 N a b) := by
  have h1 := IN_up (x := nI 0) h (k := 112 + 7 * a + 5) (by unfold FI; omega) (by omega) (PW_op h.2.2.2.1 ha (rg_nI (by decide) (by decide)))
  exact IN_up h1 (by unfold FI; omega) (by omega) (PW_op h1.2.2.2.1 hb (rg_nI (by decide) (by decide)))
theorem siteW_lt (f : Nat → Int32) (n : Nat) (hn : 0 < n) : (siteW f n).1 < n := by
  have h := siteW_le f n
  rcases Nat.lt_or_ge (siteW f n).1 n with z | z
  · exact z
  · exfalso
    have key : ∀ m, (siteW f m).1 < m ∨ m = 0 := by
      intro m
      induction m with
      | zero => exact Or.inr rfl
      | succ m ih =>
        left
        unfold siteW
        split
        · exact Nat.lt_succ_self m
        · rcases ih with q | q
          · omega
          · subst q; exact Nat.succ_pos _
    rcases key n with q | q <;> omega
theorem shut2_n {N : Nat → Int32} {a b j : Nat} (hj : j < 112 ∨ (112 ≤ j ∧ ¬ (j - 112) % 7 = 5)) : shut2 N a b j = N j := by
  unfold shut2
  rw [pk_un (by omega), pk_un (by omega)]
theorem i_join {s : SS} (hI : INV s) (a b : Int32) : INV (f_join s a b).2 := by
  unfold f_join
  have h8 := hI.1.1.2.1
  have h10 := hI.1.1.2.2.2.1
  split
  · rename_i c1
    split
    · split
      · exact hI
      · obtain ⟨-, ha⟩ := isN c1.1 hI.1.1.2.2.1 (by omega)
        obtain ⟨-, hb⟩ := isN c1.2.1 hI.1.1.2.2.1 (by omega)
        have h1 := IN_shut2 hI.1 (a := tn a) (b := tn b) (by omega) (by omega)
        have hT := h1.1.2.2.2.2.1 (tn a) (by rw [show tcN (shut2 (sN s) (tn a) (tn b)) = tcN (sN s) from by unfold tcN; rw [shut2_n (by omega)]]; exact ha)
        have hP1 := h1.2.2.2.1.2.2.1 (tn a) (by omega)
        have hP2 := h1.2.2.2.1.2.2.1 (tn b) (by omega)
        have hat := (hI.1.1.2.2.2.2.1 _ ha).2.2
        refine hI.N (IN_stand h1 ?_ (by omega) hT.2.1 ?_ ?_)
        · unfold tcN; rw [shut2_n (by omega)]
        · unfold stN
          rcases Nat.eq_zero_or_pos (nvN (sN s)) with z | z
          · rw [z]; show 0 < 8; decide
          · exact Nat.lt_of_lt_of_le (siteW_lt _ _ z) h8
        · obtain ⟨p1, -, p2⟩ := wiN hP1.2 (by decide) (by decide)
          obtain ⟨q1, -, q2⟩ := wiN hP2.2 (by decide) (by decide)
          rw [p1, q1, nI_add]
          unfold minI
          split
          · rename_i z
            exact rg_nI (by have := (nI_ltI (by omega) (by decide)).mp z; omega) (by decide)
          · exact rg_nI (by decide) (by decide)
    · exact hI
  · exact hI

theorem tx_hi {N : Nat → Int32} (h : IN N) {w : Nat} (hw : w < 3) : tn (N (252 + 52 * w)) ≤ 50 := by
  have h1 := (h.1.2.2.2.2.2 w hw).1
  unfold txN at h1
  rw [List.length_map, List.length_range] at h1
  exact h1
theorem txM_other {N : Nat → Int32} (h : IN N) {y : PT} {u w : Nat} (hu : u < 3) (hw : w < 3) (hl : y.2.2.length ≤ 50) (hne : w ≠ u) : txN (txM N y u) w = txN N w ∧ txM N y u (252 + 52 * w) = N (252 + 52 * w) ∧ ∀ i, i < 51 → txM N y u (252 + 52 * w + 1 + i) = N (252 + 52 * w + 1 + i) := by
  have e1 : txM N y u (252 + 52 * w) = N (252 + 52 * w) := by
    rw [txM_get, if_neg (by omega), if_neg (by omega), if_neg (by omega)]
  have e2 : ∀ i, i < 51 → txM N y u (252 + 52 * w + 1 + i) = N (252 + 52 * w + 1 + i) := fun i hi => by
    rw [txM_get, if_neg (by omega), if_neg (by omega), if_neg (by omega)]
  refine ⟨?_, e1, e2⟩
  have h50 := tx_hi h hw
  unfold txN
  rw [e1]
  apply List.map_congr_left
  intro i hi
  rw [List.mem_range] at hi
  rw [e2 i (by omega)]
theorem txM_self {N : Nat → Int32} {y : PT} {u : Nat} (hl : y.2.2.length ≤ 50) (hq : ∀ q, q ∈ y.2.2 → q < 20011) : txN (txM N y u) u = y.2.2 := by
  unfold txN
  rw [txM_get, if_neg (by omega), if_pos rfl, tn_nI (by omega)]
  apply List.ext_getElem
  · rw [List.length_map, List.length_range]
  · intro i h1 h2
    rw [List.getElem_map, List.getElem_range, txM_get, if_pos (by omega), show 252 + 52 * u + 1 + i - (252 + 52 * u + 1) = i by omega]
    have e : y.2.2.getD i 0 = y.2.2[i] := by rw [List.getD_eq_getElem?_getD, List.getElem?_eq_getElem h2]; rfl
    rw [e, tn_nI (by have := hq _ (List.getElem_mem h2); omega)]
theorem IN_tx {N : Nat → Int32} (h : IN N) {y : PT} {u : Nat} (hu : u < 3) (hl : y.2.2.length ≤ 50) (hq : ∀ q, q ∈ y.2.2 → WQ u q) (hs : ∀ a b c d, ∃ v, stk a b c d y.2.2 [] = some [v]) : IN (txM N y u) := by
  have lo : ∀ j, j < 252 → j ≠ 3 → txM N y u j = N j := fun j hj h3 => by rw [txM_get, if_neg (by omega), if_neg (by omega), if_neg h3]
  have e3 : txM N y u 3 = nI 0 := by rw [txM_get, if_neg (by omega), if_neg (by omega), if_pos rfl]
  have hq2 : ∀ q, q ∈ y.2.2 → q < 20011 := fun q hm => (hq q hm).1
  obtain ⟨⟨y1, y2, y3, y4, y5, y6⟩, h2, h3, h4, h5⟩ := id h
  have env : nvN (txM N y u) = nvN N := by unfold nvN; rw [lo 1 (by decide) (by decide)]
  have etc : tcN (txM N y u) = tcN N := by unfold tcN; rw [lo 2 (by decide) (by decide)]
  refine ⟨?_, ⟨?_, ?_⟩, ?_, ?_, ?_⟩
  · rw [env, etc]
    refine ⟨by rw [lo 1 (by decide) (by decide)]; exact y1, y2, by rw [lo 2 (by decide) (by decide)]; exact y3, y4, fun t ht => TW_ag (y5 t ht) (lo _ (by omega) (by omega)) (lo _ (by omega) (by omega)), fun w hw => ?_⟩
    by_cases z : w = u
    · subst z
      rw [txM_self hl hq2]
      refine ⟨hl, by rw [txM_get, if_neg (by omega), if_pos rfl], fun i hi => ⟨?_, ?_⟩, Or.inr hs⟩
      · rw [txM_get, if_pos (by omega), show 252 + 52 * w + 1 + i - (252 + 52 * w + 1) = i by omega]
      · rw [List.getD_eq_getElem?_getD, List.getElem?_eq_getElem hi]
        exact hq2 _ (List.getElem_mem hi)
    · obtain ⟨a1, a2, a3⟩ := txM_other h (y := y) hu hw hl z
      obtain ⟨g1, g2, g3, g4⟩ := y6 w hw
      rw [a1]
      exact ⟨g1, by rw [a2]; exact g2, fun i hi => by rw [a3 i (by omega)]; exact g3 i hi, g4⟩
  · unfold tlN; rw [e3]; rfl
  · unfold tlN; rw [e3]; decide
  · unfold wlN; rw [lo 4 (by decide) (by decide)]; exact h3
  · obtain ⟨g1, g2, g3, g4, g5⟩ := h4
    refine ⟨fun v hv w hw => ?_, fun a ha b hb => ?_, fun t ht => ?_, fun i hi => ?_, fun i hi => ?_⟩
    · rw [lo _ (by omega) (by omega)]; exact g1 v hv w hw
    · rw [lo _ (by omega) (by omega), lo _ (by omega) (by omega)]; exact g2 a ha b hb
    · rw [lo _ (by omega) (by omega), lo _ (by omega) (by omega)]; exact g3 t ht
    · rw [lo _ (by omega) (by omega)]; exact g4 i hi
    · rw [lo _ (by omega) (by omega)]; exact g5 i hi
  · intro w hw q hm
    by_cases z : w = u
    · subst z
      rw [txM_self hl hq2] at hm
      exact hq q hm
    · rw [(txM_other h (y := y) hu hw hl z).1] at hm
      exact h5 w hw q hm
theorem i_text {s : SS} (hI : INV s) (u : Int32) : INV (f_text s u).2 := by
  unfold f_text
  split
  · rename_i c1
    split
    · exact hI.N (IN_tl hI.1 (by decide))
    · rename_i c2
      obtain ⟨-, -, hu⟩ := wiN c1 (by decide) (by decide)
      have hb : ¬ bad (tpR (sN s)) (tlN (sN s)) (tn u) := by unfold tapeT at c2; exact c2
      obtain ⟨g1, g2, g3⟩ := txP_ok hb
      have h50 := hI.1.2.1.2
      refine hI.N ?_
      unfold txW tapeT
      exact IN_tx hI.1 (by omega) (by omega) g2 g3
  · exact hI

