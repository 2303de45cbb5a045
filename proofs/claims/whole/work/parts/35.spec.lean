/-! THE PURE STATE: row of numbers, row kept, images, errors, trace, widths, sizes, numbers of the sheets -/
abbrev SS : Type := (Nat → Int32) × (Nat → Int32) × Int32 × (Nat → Int32) × TS × (Nat → Int32) × (Nat → Int32) × (Nat → Int32)
abbrev sN (s : SS) : Nat → Int32 := s.1
abbrev sK (s : SS) : Nat → Int32 := s.2.1
abbrev sI (s : SS) : Int32 := s.2.2.1
abbrev sE (s : SS) : Nat → Int32 := s.2.2.2.1
abbrev sT (s : SS) : TS := s.2.2.2.2.1
abbrev sW (s : SS) : Nat → Int32 := s.2.2.2.2.2.1
abbrev sZ (s : SS) : Nat → Int32 := s.2.2.2.2.2.2.1
abbrev sQ (s : SS) : Nat → Int32 := s.2.2.2.2.2.2.2
def wN (s : SS) (x : Nat → Int32) : SS := (x, s.2)
def wK (s : SS) (x : Nat → Int32) (i : Int32) : SS := (s.1, x, i, s.2.2.2)
def wE (s : SS) (x : Nat → Int32) : SS := (s.1, s.2.1, s.2.2.1, x, s.2.2.2.2)
def wT (s : SS) (x : TS) : SS := (s.1, s.2.1, s.2.2.1, s.2.2.2.1, x, s.2.2.2.2.2)
def wH (s : SS) (a b c : Nat → Int32) : SS := (s.1, s.2.1, s.2.2.1, s.2.2.2.1, s.2.2.2.2.1, a, b, c)
def tn (x : Int32) : Nat := x.toNatClampNeg
def lowE (k : Nat) : Int32 := (-1000000000) - nI k
def er (k : Nat) (s : SS) : Int32 × SS := (lowE k, wE s (upd (sE s) k (sE s k + nI 1)))
def G0 (k : Nat) : Int32 := match k with | 0 => 1 | 1 => 5 | 2 => 3 | 3 => 5 | 4 => 2 | 5 => 4 | 6 => 3 | _ => 0
def rLo (k : Nat) : Int32 := if k = 5 then -9999999 else 0
def rHi (k : Nat) : Int32 := match k with | 0 => 20 | 1 => 50 | 2 => 50 | 3 => 50 | 4 => 9999 | 5 => 9999999 | _ => 0
def nvN (N : Nat → Int32) : Nat := tn (N 1)
def tcN (N : Nat → Int32) : Nat := tn (N 2)
def tlN (N : Nat → Int32) : Nat := tn (N 3)
def wlN (N : Nat → Int32) : Nat := tn (N 4)
def txN (N : Nat → Int32) (u : Nat) : List Nat := (List.range (tn (N (252 + 52 * u)))).map (fun i => tn (N (252 + 52 * u + 1 + i)))
def rg (x : Int32) (m : Nat) : Prop := nI 0 ≤ x ∧ x ≤ nI m
def PW (N : Nat → Int32) : Prop := (∀ v, v < 8 → ∀ w, w < 3 → rg (N (16 + 4 * v + 1 + w)) 99999) ∧ (∀ a, a < 8 → ∀ b, b < 8 → rg (N (48 + 8 * a + b)) 1 ∧ N (48 + 8 * a + b) = N (48 + 8 * b + a)) ∧ (∀ t, t < 10 → rg (N (112 + 7 * t + 5)) 1 ∧ rg (N (112 + 7 * t + 2)) 999) ∧ (∀ i, i < 50 → rg (N (182 + i)) 255) ∧ (∀ k, k < 4 → rg (N (7 + k)) 50)
def IN (N : Nat → Int32) : Prop := YW N (nvN N) (tcN N) (txN N) ∧ (N 3 = nI (tlN N) ∧ tlN N ≤ 50) ∧ (N 4 = nI (wlN N) ∧ wlN N ≤ 20) ∧ PW N ∧ ∀ u, u < 3 → ∀ q, q ∈ txN N u → WQ u q
def INV (s : SS) : Prop := IN (sN s) ∧ (sI s = 0 ∨ IN (sK s)) ∧ ∀ i, i < 4 → sZ s i = nI (tn (sZ s i)) ∧ tn (sZ s i) ≤ 40
/-- the reference stands for the pure state -/
def RS (σ : Nat → Nat → Int32) (τ : Nat → Int32) (s : SS) : Prop := (σ 1 = sK s ∧ σ 3 = sE s ∧ σ 13 = (sT s).1 ∧ σ 14 = sW s ∧ σ 15 = sZ s ∧ σ 16 = sQ s) ∧ (σ 4 = G0 ∧ σ 9 = rLo ∧ σ 10 = rHi) ∧ τ 0 = sI s ∧ τ 6 = nI (sT s).2 ∧ (sT s).2 ≤ 40
def RefS (h : AH) (s : SS) : Prop := ∃ σ τ, RefAt h (sN s) σ τ ∧ RS σ τ s
def KR (i : Nat) : Prop := i ≠ 2 ∧ i ≠ 5 ∧ i ≠ 7 ∧ i ≠ 8 ∧ i ≠ 11 ∧ i ≠ 12 ∧ i ≠ 17
theorem RS.to {σ σ' : Nat → Nat → Int32} {τ τ' : Nat → Int32} {s : SS} (hS : RS σ τ s) (he : ∀ i, KR i → σ' i = σ i) (h0 : τ' 0 = τ 0) (h6 : τ' 6 = τ 6) : RS σ' τ' s := by
  obtain ⟨⟨a1, a2, a3, a4, a5, a6⟩, ⟨b1, b2, b3⟩, c1, c2, c3⟩ := hS
  refine ⟨⟨?_, ?_, ?_, ?_, ?_, ?_⟩, ⟨?_, ?_, ?_⟩, h0.trans c1, h6.trans c2, c3⟩ <;> (rw [he _ (by unfold KR; decide)]; assumption)
theorem RS.N {σ : Nat → Nat → Int32} {τ : Nat → Int32} {s : SS} (hS : RS σ τ s) (x : Nat → Int32) : RS σ τ (wN s x) := hS
theorem RS.er {σ : Nat → Nat → Int32} {τ : Nat → Int32} {s : SS} (hS : RS σ τ s) (k : Nat) : RS (va_up σ 3 (upd (σ 3) k (σ 3 k + nI 1))) τ (er k s).2 := by
  obtain ⟨⟨a1, a2, a3, a4, a5, a6⟩, ⟨b1, b2, b3⟩, c⟩ := hS
  refine ⟨⟨a1, ?_, a3, a4, a5, a6⟩, ⟨b1, b2, b3⟩, c⟩
  rw [va_upS, a2]
  rfl
theorem tn_nI {a : Nat} (h : a < 2 ^ 31) : tn (nI a) = a := nI_clamp h
theorem wiN {x : Int32} {a b : Nat} (h : nI a ≤ x ∧ x ≤ nI b) (hb : b < 2 ^ 31) (ha : a < 2 ^ 31) : x = nI (tn x) ∧ a ≤ tn x ∧ tn x ≤ b := by
  obtain ⟨h1, h2⟩ := h
  have h0 : (0 : Int32) ≤ x := Int32.le_trans (nI_pos' ha) h1
  have e1 : x = nI (tn x) := by
    unfold nI tn
    rw [Int32.ofNat_toNatClampNeg _ h0]
  have hx : tn x < 2 ^ 31 := by
    have h3 := x.toInt_lt
    unfold tn
    show x.toInt.toNat < _
    omega
  rw [e1] at h1 h2
  exact ⟨e1, (nI_leI ha hx).mp h1, (nI_leI hx hb).mp h2⟩
theorem isN {x y : Int32} {n : Nat} (h : nI 0 ≤ x ∧ x ≤ y - nI 1) (hy : y = nI n) (hn : n ≤ 1000) : x = nI (tn x) ∧ tn x < n := by
  rcases Nat.eq_zero_or_pos n with z | z
  · exfalso
    rw [hy, z] at h
    have := Int32.le_trans h.1 h.2
    revert this
    decide
  · rw [hy, pk_sub (by omega)] at h
    obtain ⟨a, b, c⟩ := wiN h (by omega) (by decide)
    exact ⟨a, by omega⟩
abbrev isV (s : SS) (v : Int32) : Prop := nI 0 ≤ v ∧ v ≤ sN s 1 - nI 1
abbrev isT (s : SS) (t : Int32) : Prop := nI 0 ≤ t ∧ t ≤ sN s 2 - nI 1
abbrev wi (a : Int32) (x : Int32) (b : Int32) : Prop := a ≤ x ∧ x ≤ b
def yrN (N : Nat → Int32) (k : Nat) : Nat → Int32 := yrsR G0 N (nvN N) (tcN N) (txN N) k
/-- years from M on, counts and texts as N has them -/
def yrX (N M : Nat → Int32) (k : Nat) : Nat → Int32 := yrsR G0 M (nvN N) (tcN N) (txN N) k
def ppN (N : Nat → Int32) (nv : Nat) : Int32 := sumF (allR N) nv
def cfN (N : Nat → Int32) : Nat → Int32 := comfR G0 N (nvN N) (tcN N)
/-! what the calls answer -/
def f_village (s : SS) (p y g o : Int32) : Int32 × SS := if toldR p y g o then (if nvN (sN s) = 8 then er 4 s else (nI (nvN (sN s)), wN s (setR (sN s) (nvN (sN s)) p y g o))) else er 1 s
def f_people (s : SS) (v w : Int32) : Int32 × SS := if isV s v then (if wi (nI 0) w (nI 4) then (if tn w < 3 then (sN s (16 + 4 * tn v + 1 + tn w), s) else if tn w = 3 then (allR (sN s) (tn v), s) else (sN s (16 + 4 * tn v), s)) else er 1 s) else er 1 s
def f_become (s : SS) (v w x : Int32) : Int32 × SS := if isV s v then (if wi (nI 0) w (nI 2) then (if wi (nI 0) x (nI 99999) then (sN s (16 + 4 * tn v + 1 + tn w), wN s (upd (sN s) (16 + 4 * tn v + 1 + tn w) x)) else er 1 s) else er 1 s) else er 1 s
def f_pace (s : SS) (x : Int32) : Int32 × SS := if wi (nI 1) x (nI 9) then (sN s 6, wN s (upd (sN s) 6 x)) else er 1 s
def f_way (s : SS) (a b : Int32) : Int32 × SS := if isV s a then (if isV s b then (wayR (sN s) (tn a) (tn b), s) else er 1 s) else er 1 s
def f_mend (s : SS) (a b x : Int32) : Int32 × SS := if isV s a then (if isV s b then (if tn a = tn b then er 1 s else if wi (nI 0) x (nI 1) then (sN s (48 + 8 * tn a + tn b), wN s (upd (upd (sN s) (48 + 8 * tn b + tn a) x) (48 + 8 * tn a + tn b) x)) else er 1 s) else er 1 s) else er 1 s
def f_thing (s : SS) (kv c l r : Int32) : Int32 × SS := if wi (nI 0) kv (nI 69) then (if isV s (nI (tn kv % 10)) then (if wi (nI 0) c (nI 999) then (if wi (nI 0) l (nI 9999) then (if wi (nI 0) r (nI 300) then (if tcN (sN s) = 10 then er 4 s else (nI (tcN (sN s)), wN s (standR (sN s) (tcN (sN s)) (nI (tn kv / 10)) (nI (tn kv % 10)) c l r))) else er 1 s) else er 1 s) else er 1 s) else er 1 s) else er 1 s
def usN (N : Nat → Int32) (t : Nat) : Int32 := usersR N (nvN N) (kdN N t) (N (112 + 7 * t + 4)) (atN N t)
def f_ofThing (s : SS) (t w : Int32) : Int32 × SS := if isT s t then (if wi (nI 0) w (nI 9) then ((if tn w = 7 then usN (sN s) (tn t) else if tn w = 8 then G0 (kdN (sN s) (tn t)) else if tn w = 9 then servedR (sN s) (nvN (sN s)) (tn t) else sN s (112 + 7 * tn t + tn w)), s) else er 1 s) else er 1 s
def upK (k : Nat) : List Nat := match k with | 0 => [0] | 1 => [1, 0] | 2 => [2, 0] | 3 => [3, 2, 0] | 4 => [4, 0] | 5 => [5, 1, 0] | _ => [6, 4, 0]
def f_as (s : SS) (t k : Int32) : Int32 × SS := if isT s t then (if wi (nI 0) k (nI 6) then (if tn k ∈ upK (kdN (sN s) (tn t)) then (sN s (112 + 7 * tn t + 3), s) else er 5 s) else er 1 s) else er 1 s
def f_open (s : SS) (t x : Int32) : Int32 × SS := if isT s t then (if wi (nI 0) x (nI 1) then (sN s (112 + 7 * tn t + 5), wN s (upd (sN s) (112 + 7 * tn t + 5) x)) else er 1 s) else er 1 s
def f_promise (s : SS) (t x : Int32) : Int32 × SS := if isT s t then (if wi (-1) x (nI 199) then (sN s (112 + 7 * tn t + 6), wN s (upd (sN s) (112 + 7 * tn t + 6) x)) else er 1 s) else er 1 s
def f_comfort (s : SS) (v : Int32) : Int32 × SS := if isV s v then (cfN (sN s) (tn v), s) else er 1 s
def f_haven (s : SS) : Int32 × SS := if nvN (sN s) = 0 then er 2 s else (nI (havW (cfN (sN s)) (nvN (sN s))), s)
def f_law (s : SS) (u a b c : Int32) : Int32 × SS := if wi (nI 0) u (nI 2) then (givenR (txN (sN s) (tn u)) (tn u) a b c (nI 0), s) else er 1 s
def f_rate (s : SS) (r x : Int32) : Int32 × SS := if wi (nI 0) r (nI 5) then (if wi (rLo (tn r)) x (rHi (tn r)) then (sN s (7 + tn r), wN s (upd (sN s) (7 + tn r) x)) else er 1 s) else er 1 s
def f_seed (s : SS) (x : Int32) : Int32 × SS := (sN s 5, wN s (upd (sN s) 5 x))
def stN (N : Nat → Int32) (nv t : Nat) : Nat := (siteW (usersR N nv (kdN N t) (N (112 + 7 * t + 4))) nv).1
def f_site (s : SS) (a b : Int32) : Int32 × SS := if isT s a ∧ isT s b ∧ ¬ tn a = tn b then (if kdN (sN s) (tn a) = kdN (sN s) (tn b) then (nI (stN (sN s) (nvN (sN s)) (tn a)), s) else er 5 s) else er 1 s
def shut2 (N : Nat → Int32) (a b : Nat) : Nat → Int32 := upd (upd N (112 + 7 * a + 5) (nI 0)) (112 + 7 * b + 5) (nI 0)
def minI (x y : Int32) : Int32 := if y < x then y else x
def joinM (N M : Nat → Int32) (a b : Nat) : Nat → Int32 := standR M (tcN N) (nI (kdN M a)) (nI (stN M (nvN N) a)) (minI (nI 999) (M (112 + 7 * a + 2) + M (112 + 7 * b + 2))) (M (112 + 7 * a + 3)) (M (112 + 7 * a + 4))
def joinN (N : Nat → Int32) (a b : Nat) : Nat → Int32 := joinM N (shut2 N a b) a b
def f_join (s : SS) (a b : Int32) : Int32 × SS := if isT s a ∧ isT s b ∧ ¬ tn a = tn b then (if kdN (sN s) (tn a) = kdN (sN s) (tn b) then (if tcN (sN s) = 10 then er 4 s else (nI (tcN (sN s)), wN s (joinN (sN s) (tn a) (tn b)))) else er 5 s) else er 1 s
def f_voice (s : SS) (t a x : Int32) : Int32 × SS := if isT s t then (if wi (nI 0) a (nI 3) then ((vcF (tn a) (kdN (sN s) (tn t)) (kdN (sN s) (tn t)) (nI (tn t)) (sN s (112 + 7 * tn t + 3)) x ((sT s).1, 0)).1, wT s (vcF (tn a) (kdN (sN s) (tn t)) (kdN (sN s) (tn t)) (nI (tn t)) (sN s (112 + 7 * tn t + 3)) x ((sT s).1, 0)).2) else er 1 s) else er 1 s
def f_trace (s : SS) (i : Int32) : Int32 × SS := if wi (nI 0) i (nI (sT s).2 - nI 1) then ((sT s).1 (tn i), s) else er 2 s
def narW (w x : Int32) : Int32 := if w = nI 8 then x.toInt8.toInt32 else if w = nI 16 then x.toInt16.toInt32 else x
def f_put (s : SS) (h i x : Int32) : Int32 × SS := if wi (nI 0) h (nI 3) then (if sW s (tn h) = 0 then er 2 s else if wi (nI 0) i (nI (tn (sZ s (tn h))) - nI 1) then (nI 1, wH s (sW s) (sZ s) (upd (sQ s) (40 * tn h + tn i) (narW (sW s (tn h)) x))) else er 1 s) else er 1 s
def f_image (s : SS) : Int32 × SS := (sI s + nI 1, wK s (sN s) (sI s + nI 1))
def f_restore (s : SS) : Int32 × SS := if sI s = 0 then er 2 s else (sK s 0, wN s (sK s))
def f_tell (s : SS) (x : Int32) : Int32 × SS := if wlN (sN s) = 20 then er 4 s else (nI (wlN (sN s) + 1), wN s (upd (upd (sN s) (232 + wlN (sN s)) x) 4 (nI (wlN (sN s) + 1))))
def drZ (z : Int32) : Int32 := z * nI 1103515245 + nI 12345
def drV (z b : Int32) : Int32 := (z.toUInt32 >>> ((nI 8).toUInt32 &&& Int32.toUInt32 31)).toInt32 - (z.toUInt32 >>> ((nI 8).toUInt32 &&& Int32.toUInt32 31)).toInt32 / b * b
def dz5 (z : Int32) : Int32 := drZ (drZ (drZ (drZ (drZ z))))
def mdS (N : Nat → Int32) (v : Nat) : Nat → Int32 := setR (upd N 5 (dz5 (N 5))) v (nI 100 * drV (drZ (N 5)) (nI 31) + drV (drZ (drZ (N 5))) (nI 31)) (drV (drZ (drZ (drZ (N 5)))) (nI 100)) (drV (drZ (drZ (drZ (drZ (N 5))))) (nI 300)) (drV (dz5 (N 5)) (nI 200))
def mdN (N : Nat → Int32) (v : Nat) : Nat → (Nat → Int32)
  | 0 => N
  | k + 1 => mdS (mdN N v k) (v + k)
def f_made (s : SS) (n : Int32) : Int32 × SS := if wi (nI 1) n (nI 8) then (if 8 < nvN (sN s) + tn n then er 4 s else (nI (nvN (sN s) + tn n), wN s (mdN (sN s) (nvN (sN s)) (tn n)))) else er 1 s
/-- VILLAGES of a sheet: row from b on, size z, how many came, where v stood -/
def viW (Q : Nat → Int32) (b z : Nat) : Nat → Nat → Nat → (Nat → Int32) → Nat × (Nat → Int32)
  | 0, n, _, N => (n, N)
  | k + 1, n, v, N => if 4 * n + 4 ≤ z then (if v < 8 then (if toldR (Q (b + 4 * n)) (Q (b + 4 * n + 1)) (Q (b + 4 * n + 2)) (Q (b + 4 * n + 3)) then viW Q b z k (n + 1) (v + 1) (setR N v (Q (b + 4 * n)) (Q (b + 4 * n + 1)) (Q (b + 4 * n + 2)) (Q (b + 4 * n + 3))) else (n, N)) else (n, N)) else (n, N)
def viS (s : SS) (h : Nat) : Nat × (Nat → Int32) := viW (sQ s) (40 * h) (tn (sZ s h)) 11 0 (nvN (sN s)) (sN s)
def f_villages (s : SS) (h : Int32) : Int32 × SS := if wi (nI 0) h (nI 3) then (if sW s (tn h) = 0 then er 2 s else (nI (viS s (tn h)).1, wN s (viS s (tn h)).2)) else er 1 s
def byW (w : Int64) (k : Nat) : Int32 := ((w >>> ((nI (8 * k)).toInt64 &&& 63)) &&& 255).toInt32
def fdW (w : Int64) (N : Nat → Int32) (l : Nat) : Nat → (Nat → Int32)
  | 0 => N
  | k + 1 => upd (upd (fdW w N l k) (182 + (l + k)) (byW w k)) 3 (nI (l + k + 1))
def f_feed (s : SS) (w : Int64) (n : Int32) : Int32 × SS := if wi (nI 1) n (nI 8) then (if 50 < tlN (sN s) + tn n then er 4 s else (nI (tlN (sN s) + tn n), wN s (fdW w (sN s) (tlN (sN s)) (tn n)))) else er 1 s
def cpW (c : List Nat) (b : Nat) (N : Nat → Int32) : Nat → (Nat → Int32)
  | 0 => N
  | k + 1 => upd (cpW c b N k) (b + k) (nI (c.getD k 0))
def tapeT (N : Nat → Int32) (u : Nat) : PT := txP (tpR N) (tlN N) u
def txM (N : Nat → Int32) (y : PT) (u : Nat) : Nat → Int32 := cpW y.2.2 (252 + 52 * u + 1) (upd (upd N 3 (nI 0)) (252 + 52 * u) (nI y.2.2.length)) y.2.2.length
def txW (N : Nat → Int32) (u : Nat) : Nat → Int32 := txM N (tapeT N u) u
def f_text (s : SS) (u : Int32) : Int32 × SS := if wi (nI 0) u (nI 2) then (if (tapeT (sN s) (tn u)).2.1 = true ∨ (tapeT (sN s) (tn u)).1 < tlN (sN s) then ((-10) - nI (tapeT (sN s) (tn u)).1, wN s (upd (sN s) 3 (nI 0))) else (nI 1, wN s (txW (sN s) (tn u)))) else er 1 s
def f_years (s : SS) (n : Int32) : Int32 × SS := if wi (nI 1) n (nI 50) then (if sN s 0 + nI (tn n) ≤ nI 199 then (yrN (sN s) (tn n) 0, wN s (yrN (sN s) (tn n))) else er 3 s) else er 1 s
def cf2 (N : Nat → Int32) (nv tc : Nat) : Nat → Int32 := comfR G0 N nv tc
def lfV (N M : Nat → Int32) (w : Nat) : Int32 := if w = 0 then ppN M (nvN N) else if w = 1 then M 12 else if w = 2 then orF (openR M) (tcN N) else sumF (cf2 M (nvN N) (tcN N)) (nvN N)
def f_left (s : SS) (n w : Int32) : Int32 × SS := if wi (nI 0) n (nI 40) then (if wi (nI 0) w (nI 3) then (lfV (sN s) (yrN (sN s) (tn n)) (tn w), s) else er 1 s) else er 1 s
def thV (M : Nat → Int32) (v w : Nat) : Int32 := if w = 3 then allR M v else M (16 + 4 * v + 1 + w)
def f_then (s : SS) (n v w : Int32) : Int32 × SS := if wi (nI 0) n (nI 40) then (if isV s v then (if wi (nI 0) w (nI 3) then (thV (yrN (sN s) (tn n)) (tn v) (tn w), s) else er 1 s) else er 1 s) else er 1 s
/-- the first k from k on, of at most n steps, at which P holds; else the last -/
def fsP (P : Nat → Bool) : Nat → Nat → Nat
  | 0, k => k
  | n + 1, k => if P k = true then k else fsP P n (k + 1)
def flP (N : Nat → Int32) (v : Nat) (k : Nat) : Bool := decide (¬ 0 < allR (yrN N k) v)
def f_falls (s : SS) (v n : Int32) : Int32 × SS := if isV s v then (if wi (nI 0) n (nI 40) then (if allR (yrN (sN s) (fsP (flP (sN s) (tn v)) (tn n) 0)) (tn v) = 0 then (nI (fsP (flP (sN s) (tn v)) (tn n) 0), s) else er 2 s) else er 1 s) else er 1 s
def brP (N : Nat → Int32) (k : Nat) : Bool := decide (¬ 0 ≤ yrN N k 12)
def f_broke (s : SS) (n : Int32) : Int32 × SS := if wi (nI 0) n (nI 40) then (if yrN (sN s) (fsP (brP (sN s)) (tn n) 0) 12 < 0 then (nI (fsP (brP (sN s)) (tn n) 0), s) else er 2 s) else er 1 s
/-- the rows are the same from 16 on, so many -/
def eqR (A B : Nat → Int32) : Nat → Bool
  | 0 => true
  | i + 1 => eqR A B i && decide (A (16 + i) = B (16 + i))
def rsP (N : Nat → Int32) (k : Nat) : Bool := eqR (yrN N k) (yrN N (k + 1)) (4 * nvN N)
def f_rest (s : SS) (n : Int32) : Int32 × SS := if wi (nI 1) n (nI 40) then (if fsP (rsP (sN s)) (tn n) 0 < tn n then (nI (fsP (rsP (sN s)) (tn n) 0 + 1), s) else er 2 s) else er 1 s
def hasB (x : Int32) (k : Nat) : Prop := (x >>> (nI k &&& 31)) &&& nI 1 = nI 1
def f_told (s : SS) (k : Int32) : Int32 × SS := if wi (nI 1) k (nI 5) then (sE s (tn k), s) else er 1 s
