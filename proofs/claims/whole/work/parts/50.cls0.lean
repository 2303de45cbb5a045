/-! BITS -/
def bt (x : Int32) (i : Nat) : Bool := x.toBitVec.getLsbD i
theorem bt_ext {x y : Int32} (h : ∀ i, i < 32 → bt x i = bt y i) : x = y := by
  apply Int32.toBitVec_inj.mp
  apply BitVec.eq_of_getLsbD_eq
  exact h
theorem bt_or (x y : Int32) (i : Nat) : bt (x ||| y) i = (bt x i || bt y i) := by
  unfold bt
  rw [Int32.toBitVec_or, BitVec.getLsbD_or]
theorem bt_and (x y : Int32) (i : Nat) : bt (x &&& y) i = (bt x i && bt y i) := by
  unfold bt
  rw [Int32.toBitVec_and, BitVec.getLsbD_and]
theorem bt_xor (x y : Int32) (i : Nat) : bt (x ^^^ y) i = (bt x i ^^ bt y i) := by
  unfold bt
  rw [Int32.toBitVec_xor, BitVec.getLsbD_xor]
theorem shamt : ∀ t, t < 32 → ((nI t &&& 31).toBitVec.smod 32).toNat = t := by decide
theorem bt_sh1 : ∀ t, t < 31 → ∀ i, i < 32 → bt (nI 1 <<< (nI t &&& 31)) i = decide (i = t) := by decide +kernel
theorem bt_0 : ∀ i, i < 32 → bt (nI 0) i = false := by decide
theorem bt_1 : ∀ i, i < 32 → bt (nI 1) i = decide (i = 0) := by decide
theorem bt_m1 : ∀ i, i < 32 → bt (-1) i = true := by decide
theorem bt_shr (x : Int32) (t i : Nat) (ht : t + i < 32) : bt (x >>> (nI t &&& 31)) i = bt x (t + i) := by
  unfold bt
  show (x.toBitVec.sshiftRight' ((nI t &&& 31).toBitVec.smod 32)).getLsbD i = _
  rw [BitVec.getLsbD_sshiftRight', shamt t (by omega), if_pos ht, decide_eq_false (by omega)]
  rfl
theorem bt_hi (x : Int32) {i : Nat} (h : 32 ≤ i) : bt x i = false := BitVec.getLsbD_of_ge _ _ h
/-- a bit, shifted down and alone -/
theorem tbV (x : Int32) (t : Nat) (ht : t < 31) : (x >>> (nI t &&& 31)) &&& nI 1 = if bt x t = true then nI 1 else nI 0 := by
  apply bt_ext
  intro i hi
  rw [bt_and, bt_1 i hi]
  by_cases e : i = 0
  · subst e
    rw [bt_shr x t 0 (by omega)]
    cases hb : bt x t
    · rw [if_neg (by decide), bt_0 0 (by decide)]; rfl
    · rw [if_pos rfl, bt_1 0 (by decide)]; rfl
  · rw [decide_eq_false e, Bool.and_false]
    split
    · rw [bt_1 i hi, decide_eq_false e]
    · rw [bt_0 i hi]
theorem tb1 {x : Int32} {t : Nat} (ht : t < 31) : (x >>> (nI t &&& 31)) &&& nI 1 = nI 1 ↔ bt x t = true := by
  rw [tbV x t ht]
  cases bt x t
  · rw [if_neg (by decide)]; exact ⟨fun e => absurd e (by decide), fun e => absurd e (by decide)⟩
  · rw [if_pos rfl]; exact ⟨fun _ => rfl, fun _ => rfl⟩
theorem tb0 {x : Int32} {t : Nat} (ht : t < 31) : (x >>> (nI t &&& 31)) &&& nI 1 = 0 ↔ ¬ bt x t = true := by
  rw [tbV x t ht]
  cases bt x t
  · rw [if_neg (by decide)]; exact ⟨fun _ => by decide, fun _ => rfl⟩
  · rw [if_pos rfl]; exact ⟨fun e => absurd e (by decide), fun e => absurd rfl e⟩
theorem tb01 {x : Int32} {t : Nat} (ht : t < 31) : (x >>> (nI t &&& 31)) &&& nI 1 = 0 ↔ ¬ (x >>> (nI t &&& 31)) &&& nI 1 = nI 1 := by rw [tb0 ht, tb1 ht]
theorem bt_orF {F : Nat → Int32} {P : Nat → Prop} [DecidablePred P] (hF : ∀ b, F b = if P b then nI 1 <<< (nI b &&& 31) else nI 0) (n : Nat) (hn : n ≤ 31) (i : Nat) (hi : i < 32) : bt (orF F n) i = decide (i < n ∧ P i) := by
  induction n with
  | zero =>
    show bt (nI 0) i = _
    rw [bt_0 i hi, decide_eq_false (by omega)]
  | succ n ih =>
    rw [orF, bt_or, ih (by omega), hF]
    by_cases z : P n
    · rw [if_pos z, bt_sh1 n (by omega) i hi]
      by_cases e : i = n
      · subst e
        rw [decide_eq_false (fun q => Nat.lt_irrefl _ q.1), decide_eq_true rfl, decide_eq_true ⟨Nat.lt_succ_self _, z⟩]; rfl
      · rw [decide_eq_false e, Bool.or_false]
        exact decide_eq_decide.mpr ⟨fun q => ⟨by omega, q.2⟩, fun q => ⟨by omega, q.2⟩⟩
    · rw [if_neg z, bt_0 i hi, Bool.or_false]
      exact decide_eq_decide.mpr ⟨fun q => ⟨by omega, q.2⟩, fun q => ⟨by
        rcases Nat.lt_or_ge i n with y | y
        · exact y
        · exact absurd ((show i = n by omega) ▸ q.2) z, q.2⟩⟩
/-- bits of the open things, of the mended roads, of the villages that are served -/
def opB (N : Nat → Int32) : Int32 := orF (openR N) (tcN N)
def mdB (N : Nat → Int32) (a : Nat) : Int32 := orF (fun b => if N (48 + 8 * a + b) = nI 1 then nI 1 <<< (nI b &&& 31) else nI 0) 8
theorem bt_op {N : Nat → Int32} (h : tcN N ≤ 10) (t : Nat) (ht : t < 32) : bt (opB N) t = decide (t < tcN N ∧ N (112 + 7 * t + 5) = nI 1) := bt_orF (fun _ => rfl) _ (by omega) t ht
theorem bt_md {N : Nat → Int32} (a b : Nat) (hb : b < 32) : bt (mdB N a) b = decide (b < 8 ∧ N (48 + 8 * a + b) = nI 1) := bt_orF (fun _ => rfl) _ (by omega) b hb
theorem bt_sv {N : Nat → Int32} {nv : Nat} (h : nv ≤ 8) (t v : Nat) (hv : v < 32) : bt (servedR N nv t) v = decide (v < nv ∧ servR N (kdN N t) (N (112 + 7 * t + 4)) (atN N t) v) := bt_orF (fun _ => rfl) _ (by omega) v hv
theorem opB_t {N : Nat → Int32} {t : Nat} (h : tcN N ≤ 10) (ht : t < tcN N) : (opB N >>> (nI t &&& 31)) &&& nI 1 = 0 ↔ ¬ N (112 + 7 * t + 5) = nI 1 := by
  rw [tb0 (by omega), bt_op h t (by omega), decide_eq_true_iff]
  exact ⟨fun q z => q ⟨ht, z⟩, fun q z => q z.2⟩
theorem mdB_t {N : Nat → Int32} {a b : Nat} (hb : b < 8) : (mdB N a >>> (nI b &&& 31)) &&& nI 1 = 0 ↔ ¬ N (48 + 8 * a + b) = nI 1 := by
  rw [tb0 (by omega), bt_md a b (by omega), decide_eq_true_iff]
  exact ⟨fun q z => q ⟨hb, z⟩, fun q z => q z.2⟩
theorem svB_t {N : Nat → Int32} {nv t v : Nat} (h : nv ≤ 8) (hv : v < nv) : (servedR N nv t >>> (nI v &&& 31)) &&& nI 1 = 0 ↔ ¬ servR N (kdN N t) (N (112 + 7 * t + 4)) (atN N t) v := by
  rw [tb0 (by omega), bt_sv h t v (by omega), decide_eq_true_iff]
  exact ⟨fun q z => q ⟨hv, z⟩, fun q z => q z.2⟩
/-! THE CLASS'S CELLS -/
def ciK (k : Nat) : Nat := match k with | 0 => 9 | 1 => 7 | 2 => 8 | 3 => 3 | 4 => 1 | 5 => 10 | _ => 0
def Row0 (h : AH) (a n : Nat) (f : Nat → Int32) : Prop := h[a]? = some (.inl (0, n, .inl f))
def tgF (N : Nat → Int32) (t : Nat) : List Value := [.int (nI t), .int (N (112 + 7 * t + 1)), .int (N (112 + 7 * t + 2)), .int (N (112 + 7 * t + 3)), .int (N (112 + 7 * t + 4))]
def ThingAt (h : AH) (b t : Nat) (N : Nat → Int32) : Prop := 101 ≤ b ∧ h[b]? = some (.inr (ciK (kdN N t), tgF N t))
def stC (q : Nat) : Int32 := if q < 20000 then nI q else match q with | 20000 => -124 | 20001 => -38 | 20002 => -60 | 20003 => -61 | 20004 => -62 | 20005 => -43 | 20006 => -45 | 20007 => -42 | 20008 => -47 | 20009 => -37 | _ => -33
def RuleAt (h : AH) (r u : Nat) (tx : List Nat) : Prop := 101 ≤ r ∧ (∃ p f : Int32, h[r]? = some (.inr (6, [.ref (4 + u), .ref (r + 1), .ref (r + 3), .int p, .int f]))) ∧ (∃ b : Int32, h[r + 1]? = some (.inr (5, [.ref (r + 2), .int (nI tx.length), .int b]))) ∧ (∃ c, Row0 h (r + 2) 50 c ∧ ∀ i, i < tx.length → c i = stC (tx.getD i 0)) ∧ ∃ k, Row0 h (r + 3) 50 k
/-- every Rule's block is whole -/
def RB (h : AH) : Prop := ∀ (r : Nat) (fs : List Value), h[r]? = some (.inr (6, fs)) → 101 ≤ r ∧ (∃ gs, h[r + 1]? = some (.inr (5, gs))) ∧ (∃ c, Row0 h (r + 2) 50 c) ∧ ∃ k, Row0 h (r + 3) 50 k
def lnF (a : Nat) (N : Nat → Int32) : List Value := [.int (N 0), .int (N 6), .int (N 1), .int (N 2), .int (opB N), .ref (a + 1), .ref (a + 2), .ref (a + 3), .ref (a + 4), .ref (a + 5), .ref (a + 6), .ref (a + 7), .ref (a + 8), .ref (a + 9), .ref (a + 10), .ref (a + 11)]
def LandAt (h : AH) (a : Nat) (N : Nat → Int32) : Prop := h[a]? = some (.inr (4, lnF a N)) ∧
  (∃ f, Row0 h (a + 1) 8 f ∧ ∀ v, v < 8 → f v = N (16 + 4 * v)) ∧
  (∃ f, Row0 h (a + 2) 24 f ∧ ∀ v, v < 8 → ∀ w, w < 3 → f (3 * v + w) = N (16 + 4 * v + 1 + w)) ∧
  (∃ f, Row0 h (a + 3) 8 f ∧ ∀ v, v < 8 → f v = mdB N v) ∧
  (∃ T, h[a + 4]? = some (.inl (1, 10, .inr (.inr (.inr (.inr T))))) ∧ ∀ t, t < tcN N → ∃ b, T t = some b ∧ ThingAt h b t N) ∧
  (∃ f, Row0 h (a + 5) 10 f ∧ ∀ t, t < tcN N → f t = N (112 + 7 * t + 6)) ∧
  (∃ f, Row0 h (a + 6) 10 f ∧ ∀ t, t < tcN N → f t = servedR N (nvN N) t) ∧
  (∃ f, Row0 h (a + 8) 6 f ∧ ∀ k, k < 6 → f k = N (7 + k)) ∧
  (∃ R, h[a + 9]? = some (.inl (2, 3, .inr (.inr (.inr (.inr R))))) ∧ ∀ u, u < 3 → (txN N u = [] ∧ R u = none) ∨ (txN N u ≠ [] ∧ ∃ r, R u = some r ∧ RuleAt h r u (txN N u))) ∧
  (∃ f, Row0 h (a + 10) 8 f) ∧ (∃ f, Row0 h (a + 11) 3 f) ∧ (∃ f, Row0 h (a + 7) 10 f ∧ ∀ t, t < tcN N → f t = G0 (kdN N t))
/-- a Rule's pile -/
def SK (h : AH) (x : Nat) : Prop := 3 ≤ x ∧ ∃ fs, h[x - 3]? = some (.inr (6, fs))
/-- nothing has changed but the cells of W, and what lies on the Rules' piles -/
def FrL (W : Nat → Prop) (h h' : AH) : Prop := h'.length = h.length ∧ ∀ x, h'[x]? = h[x]? ∨ W x ∨ (SK h x ∧ ∃ f, Row0 h' x 50 f)
theorem FrL.rf {W : Nat → Prop} {h : AH} : FrL W h h := ⟨rfl, fun _ => Or.inl rfl⟩
theorem LandAt.cn {h : AH} {a : Nat} {N : Nat → Int32} (hL : LandAt h a N) : CN h a RX4 := Or.inl ⟨4, lnF a N, _, hL.1, rfl, rfl⟩

