/-! WHAT THE PURE STATE KEEPS -/
theorem rg_nI {a m : Nat} (h : a ≤ m) (hm : m < 2 ^ 31) : rg (nI a) m := ⟨(nI_leI (by decide) (by omega)).mpr (by omega), (nI_leI (by omega) hm).mpr h⟩
theorem PW_upd {N : Nat → Int32} {k : Nat} {x : Int32} (h : PW N) (h1 : ∀ v, v < 8 → ∀ w, w < 3 → k = 16 + 4 * v + 1 + w → rg x 99999) (h2 : k < 48 ∨ 112 ≤ k) (h3 : ∀ t, t < 10 → (k = 112 + 7 * t + 5 → rg x 1) ∧ (k = 112 + 7 * t + 2 → rg x 999)) (h4 : ∀ i, i < 50 → k = 182 + i → rg x 255) (h5 : ∀ i, i < 4 → k = 7 + i → rg x 50) : PW (upd N k x) := by
  obtain ⟨g1, g2, g3, g4, g5⟩ := h
  refine ⟨fun v hv w hw => ?_, fun a ha b hb => ?_, fun t ht => ⟨?_, ?_⟩, fun i hi => ?_, fun i hi => ?_⟩
  · by_cases e : 16 + 4 * v + 1 + w = k
    · rw [e, pk_us]; exact h1 v hv w hw e.symm
    · rw [pk_un e]; exact g1 v hv w hw
  · rw [pk_un (by omega), pk_un (by omega)]; exact g2 a ha b hb
  · by_cases e : 112 + 7 * t + 5 = k
    · rw [e, pk_us]; exact (h3 t ht).1 e.symm
    · rw [pk_un e]; exact (g3 t ht).1
  · by_cases e : 112 + 7 * t + 2 = k
    · rw [e, pk_us]; exact (h3 t ht).2 e.symm
    · rw [pk_un e]; exact (g3 t ht).2
  · by_cases e : 182 + i = k
    · rw [e, pk_us]; exact h4 i hi e.symm
    · rw [pk_un e]; exact g4 i hi
  · by_cases e : 7 + i = k
    · rw [e, pk_us]; exact h5 i hi e.symm
    · rw [pk_un e]; exact g5 i hi
theorem PW_pe {N : Nat → Int32} {v w : Nat} {x : Int32} (h : PW N) (hv : v < 8) (hw : w < 3) (hx : rg x 99999) : PW (upd N (16 + 4 * v + 1 + w) x) :=
  PW_upd h (fun _ _ _ _ _ => hx) (by omega) (fun t ht => ⟨fun e => by omega, fun e => by omega⟩) (fun i hi e => by omega) (fun i hi e => by omega)
theorem PW_op {N : Nat → Int32} {t : Nat} {x : Int32} (h : PW N) (ht : t < 10) (hx : rg x 1) : PW (upd N (112 + 7 * t + 5) x) :=
  PW_upd h (fun v hv w hw e => by omega) (by omega) (fun t ht => ⟨fun _ => hx, fun e => by omega⟩) (fun i hi e => by omega) (fun i hi e => by omega)
/-- the rows agree where no year writes -/
def JW (N N0 : Nat → Int32) : Prop := PW N ∧ N 1 = N0 1 ∧ N 2 = N0 2 ∧ N 3 = N0 3 ∧ N 4 = N0 4 ∧ ∀ j, 252 ≤ j → N j = N0 j
theorem txN_ag {N N0 : Nat → Int32} (h : ∀ j, 252 ≤ j → N j = N0 j) : txN N = txN N0 := by
  funext u
  unfold txN
  rw [h _ (by omega)]
  apply List.map_congr_left
  intro i _
  rw [h _ (by omega)]
theorem JW.rf {N : Nat → Int32} (h : PW N) : JW N N := ⟨h, rfl, rfl, rfl, rfl, fun _ _ => rfl⟩
theorem JW.up {N N0 : Nat → Int32} (h : JW N N0) {k : Nat} {x : Int32} (hk : 5 ≤ k ∧ k < 252 ∨ k = 0) (hP : PW (upd N k x)) : JW (upd N k x) N0 :=
  ⟨hP, (pk_un (by omega)).trans h.2.1, (pk_un (by omega)).trans h.2.2.1, (pk_un (by omega)).trans h.2.2.2.1, (pk_un (by omega)).trans h.2.2.2.2.1, fun j hj => (pk_un (by omega)).trans (h.2.2.2.2.2 j hj)⟩
theorem JW.pe {N N0 : Nat → Int32} (h : JW N N0) {v w : Nat} {x : Int32} (hv : v < 8) (hw : w < 3) (hx : rg x 99999) : JW (upd N (16 + 4 * v + 1 + w) x) N0 := h.up (by omega) (PW_pe h.1 hv hw hx)
theorem JW.nv {N N0 : Nat → Int32} (h : JW N N0) : nvN N = nvN N0 := by unfold nvN; rw [h.2.1]
theorem JW.tc {N N0 : Nat → Int32} (h : JW N N0) : tcN N = tcN N0 := by unfold tcN; rw [h.2.2.1]
theorem JW.tx {N N0 : Nat → Int32} (h : JW N N0) : txN N = txN N0 := txN_ag h.2.2.2.2.2
theorem JW.IN {N N0 : Nat → Int32} (h : JW N N0) (h0 : IN N0) (hY : YW N (nvN N0) (tcN N0) (txN N0)) : IN N := by
  refine ⟨by rw [h.nv, h.tc, h.tx]; exact hY, ?_, ?_, h.1, by rw [h.tx]; exact h0.2.2.2.2⟩
  · unfold tlN; rw [h.2.2.2.1]; exact h0.2.1
  · unfold wlN; rw [h.2.2.2.2.1]; exact h0.2.2.1
theorem rg_chg (x : Int32) (b : Int64) : rg (chg x b) 99999 := by
  have key : ∀ z : Int64, 0 ≤ z → z ≤ 99999 → rg z.toInt32 99999 := by
    intro z h0 h1
    have h0' : (0 : Int64).toInt ≤ z.toInt := Int64.le_iff_toInt_le.mp h0
    have h1' : z.toInt ≤ (99999 : Int64).toInt := Int64.le_iff_toInt_le.mp h1
    have e0 : (0 : Int64).toInt = 0 := by decide
    have e1 : (99999 : Int64).toInt = 99999 := by decide
    have e2 : z.toInt32.toInt = z.toInt := by
      rw [Int64.toInt_toInt32]
      exact Int.bmod_eq_of_le (by omega) (by omega)
    constructor
    · rw [Int32.le_iff_toInt_le, nI_toInt (by decide), e2]; omega
    · rw [Int32.le_iff_toInt_le, nI_toInt (by decide), e2]; omega
  unfold chg
  split
  · rename_i y
    split
    · exact key 0 (by decide) (by decide)
    · rename_i z; exact key _ (Int64.not_lt.mp z) (Int64.le_of_lt y)
  · rw [if_neg (by decide)]; exact key _ (by decide) (by decide)
theorem shW_JW {N N0 : Nat → Int32} (h : JW N N0) (nv : Nat) (u : List Nat) (t : Nat) (ht : t ≤ 10) : JW (shW N nv u t) N0 := by
  induction t with
  | zero => exact h
  | succ t ih =>
    rw [shW]
    split
    · exact (ih (by omega)).up (by omega) (PW_op (ih (by omega)).1 (by omega) (rg_nI (by decide) (by decide)))
    · exact ih (by omega)
theorem goS_JW {M : (Nat → Int32) × (Nat → Int32)} {N0 : Nat → Int32} (h : JW M.1 N0) (u : List Nat) (cv al : Int32) (v hv w : Nat) (hv8 : v < 8) (hw : w < 3) : JW (goS u cv al v hv w M).1 N0 := h.pe hv8 hw (rg_chg _ _)
theorem goV_JW {N N0 : Nat → Int32} (h : JW N N0) (u : List Nat) (C : Nat → Int32) (hv v : Nat) (hv8 : v ≤ 8) : JW (goV u C hv N v).1 N0 := by
  induction v with
  | zero => exact h
  | succ v ih =>
    rw [goV]
    exact goS_JW (goS_JW (goS_JW (ih (by omega)) u _ _ v hv 0 (by omega) (by decide)) u _ _ v hv 1 (by omega) (by decide)) u _ _ v hv 2 (by omega) (by decide)
theorem goR_JW {N N0 : Nat → Int32} (h : JW N N0) (u : List Nat) (C : Nat → Int32) (nv : Nat) (hnv : nv ≤ 8) : JW (goR u C N nv) N0 := by
  unfold goR
  by_cases z : nv = 0
  · rw [if_pos z]; exact h
  · rw [if_neg z]
    have h8 := havW_lt C nv (by omega)
    exact JW.pe (JW.pe (JW.pe (goV_JW h u C _ nv hnv) (by omega) (by decide) (rg_chg _ _)) (by omega) (by decide) (rg_chg _ _)) (by omega) (by decide) (rg_chg _ _)
theorem coW_JW {N N0 : Nat → Int32} (h : JW N N0) (u : List Nat) (C : Nat → Int32) (v : Nat) (hv8 : v ≤ 8) : JW (coW u C N v) N0 := by
  induction v with
  | zero => exact h
  | succ v ih => exact JW.pe (ih (by omega)) (by omega) (by decide) (rg_chg _ _)
theorem lvW_JW {N N0 : Nat → Int32} (h : JW N N0) (v : Nat) (hv : v < 8) : JW (lvW N v) N0 := JW.pe (JW.pe (JW.pe h hv (by decide) (rg_chg _ _)) hv (by decide) (rg_chg _ _)) hv (by decide) (rg_chg _ _)
theorem lvs_JW {N N0 : Nat → Int32} (h : JW N N0) (v : Nat) (hv8 : v ≤ 8) : JW (lvs N v) N0 := by
  induction v with
  | zero => exact h
  | succ v ih => exact lvW_JW (ih (by omega)) v (by omega)
theorem cstW_JW {N N0 : Nat → Int32} (h : JW N N0) (t : Nat) : JW (cstW N t) N0 := by
  induction t with
  | zero => exact h.up (by omega) (PW_other h.1 (by omega))
  | succ t ih => exact ih.up (by omega) (PW_other ih.1 (by omega))
theorem yearR_JW {N N0 : Nat → Int32} (h : JW N N0) (G : Nat → Int32) {nv tc : Nat} (hnv : nv ≤ 8) (htc : tc ≤ 10) (tx : Nat → List Nat) : JW (yearR G N nv tc tx) N0 := by
  have h1 : JW (yeR G N nv tc tx) N0 := cstW_JW (lvs_JW (coW_JW (goR_JW (shW_JW h nv (tx 0) tc htc) _ _ nv hnv) _ _ nv hnv) nv hnv) tc
  exact h1.up (by omega) (PW_other h1.1 (by omega))
theorem yrsR_JW {N N0 : Nat → Int32} (h : JW N N0) (G : Nat → Int32) {nv tc : Nat} (hnv : nv ≤ 8) (htc : tc ≤ 10) (tx : Nat → List Nat) (k : Nat) : JW (yrsR G N nv tc tx k) N0 := by
  induction k with
  | zero => exact h
  | succ k ih => exact yearR_JW ih G hnv htc tx
theorem IN_yr {N : Nat → Int32} (h : IN N) (k : Nat) : IN (yrN N k) := (yrsR_JW (JW.rf h.2.2.2.1) G0 h.1.2.1 h.1.2.2.2.1 (txN N) k).IN h (yrsR_YW G0 h.1 k)
theorem INV.er {s : SS} (h : INV s) (k : Nat) : INV (er k s).2 := h
theorem INV.N {s : SS} (h : INV s) {N : Nat → Int32} (hN : IN N) : INV (wN s N) := ⟨hN, h.2⟩
theorem IN_up {N : Nat → Int32} (h : IN N) {k : Nat} {x : Int32} (hk : FI k) (hk5 : 5 ≤ k ∨ k = 0) (hP : PW (upd N k x)) : IN (upd N k x) :=
  ((JW.rf h.2.2.2.1).up (by have := hk.2.2.1; omega) hP).IN h (YW_upd h.1 hk)
