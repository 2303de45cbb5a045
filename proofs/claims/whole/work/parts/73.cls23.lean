/-! THE CLASS'S STATE AS A WHOLE -/
def RW (h : AH) (o n : Nat) (f : Nat → Int32) (z b : Int32) : Prop := h[o]? = some (.inr (5, [.ref (o + 1), .int z, .int b])) ∧ Row0 h (o + 1) n f
def dkF (d : Nat) (z : Int32) : List Value := [.ref (d + 1), .ref (d + 13), .ref (d + 15), .int z]
def TpA (h : AH) (o : Nat) (N : Nat → Int32) : Prop := ∃ f b, RW h o 50 f (N 3) b ∧ ∀ i, i < tlN N → f i = N (182 + i)
def WtA (h : AH) (o : Nat) (N : Nat → Int32) : Prop := ∃ f b, RW h o 20 f (N 4) b ∧ ∀ i, i < wlN N → f i = N (232 + i)
def DeskAt (h : AH) (d : Nat) (N : Nat → Int32) : Prop := h[d]? = some (.inr (2, dkF d (N 5))) ∧ LandAt h (d + 1) N ∧ TN h (d + 1) (tcN N) ∧ TpA h (d + 13) N ∧ WtA h (d + 15) N
def DShp (h : AH) (d : Nat) : Prop := (∃ z, h[d]? = some (.inr (2, dkF d z))) ∧ Shp h (d + 1) ∧ (∃ f z b, RW h (d + 13) 50 f z b) ∧ (∃ f z b, RW h (d + 15) 20 f z b)
theorem DeskAt.shp {h : AH} {d : Nat} {N : Nat → Int32} (hD : DeskAt h d N) : DShp h d := by
  obtain ⟨a1, a2, -, ⟨f, b, r, -⟩, ⟨f2, b2, r2, -⟩⟩ := hD
  exact ⟨⟨_, a1⟩, a2.shp, ⟨f, _, b, r⟩, ⟨f2, _, b2, r2⟩⟩
def clF (i : Int32) : List Value := [.ref 12, .ref 29, .int i, .ref 46, .ref 58, .ref 70, .ref 71, .ref 73]
def CO (h : AH) (s : SS) : Prop := h[11]? = some (.inr (11, clF (sI s)))
def CK (h : AH) (s : SS) : Prop := DShp h 29 ∧ (sI s ≠ 0 → DeskAt h 29 (sK s))
def CT (h : AH) (s : SS) : Prop := ∃ f b, RW h 71 40 f (nI (sT s).2) b ∧ (sT s).2 ≤ 40 ∧ ∀ i, i < (sT s).2 → f i = (sT s).1 i
def CH (h : AH) : Prop := ∃ T : Nat → Option Nat, h[70]? = some (.inl (3, 4, .inr (.inr (.inr (.inr T))))) ∧ ∀ g, g < 4 → T g = some (74 + 2 * g)
def CR (h : AH) (s : SS) : Prop := ∀ g, g < 4 → ∃ f, RW h (74 + 2 * g) 40 f (sZ s g) (sW s g) ∧ ∀ i, i < 40 → f i = sQ s (40 * g + i)
def CX (h : AH) : Prop := XH h ∧ (∃ f, h[1]? = some (.inl (6, 6, .inl f)) ∧ ∀ k, k < 6 → f k = rLo k) ∧ (∃ f, h[2]? = some (.inl (6, 6, .inl f)) ∧ ∀ k, k < 6 → f k = rHi k)
def ClsS (h : AH) (s : SS) : Prop := CO h s ∧ DeskAt h 12 (sN s) ∧ CK h s ∧ Shp h 46 ∧ Shp h 58 ∧ CH h ∧ CT h s ∧ Row0 h 73 6 (sE s) ∧ CR h s ∧ RB h ∧ CX h ∧ 101 ≤ h.length
/-- what a call of the class leaves alone -/
def FrC (h h' : AH) : Prop := h.length ≤ h'.length ∧ ∀ x, x < 11 ∨ (82 ≤ x ∧ x < 101) → h'[x]? = h[x]?
theorem FrC.rf {h : AH} : FrC h h := ⟨Nat.le_refl _, fun _ _ => rfl⟩
theorem FrC.trans {h h1 h2 : AH} (a : FrC h h1) (b : FrC h1 h2) : FrC h h2 := ⟨Nat.le_trans a.1 b.1, fun x hx => (b.2 x hx).trans (a.2 x hx)⟩
/-- the high cells stay, but for the Rules' piles -/
def HG (h h' : AH) : Prop := ∀ x c, 101 ≤ x → h[x]? = some c → h'[x]? = some c ∨ (SK h x ∧ ∃ f, Row0 h' x 50 f)
theorem HG.rf {h : AH} : HG h h := fun _ _ _ hx => Or.inl hx
theorem HG.obj {h h' : AH} (g : HG h h') (hB : RB h) {x : Nat} {q : Nat × List Value} (h97 : 101 ≤ x) (hx : h[x]? = some (.inr q)) : h'[x]? = some (.inr q) := by
  rcases g x _ h97 hx with e | ⟨⟨e3, fs, es⟩, -⟩
  · exact e
  · obtain ⟨k, hk⟩ := (hB _ fs es).2.2.2
    rw [show x - 3 + 3 = x by omega] at hk
    cases hk.symm.trans hx
theorem HG.r2 {h h' : AH} (g : HG h h') (hB : RB h) {r : Nat} {fs : List Value} {c : AC} (hr : h[r]? = some (.inr (6, fs))) (hc : h[r + 2]? = some c) : h'[r + 2]? = some c := by
  have h97 := (hB _ fs hr).1
  rcases g (r + 2) c (by omega) hc with e | ⟨⟨e3, gs, es⟩, -⟩
  · exact e
  · obtain ⟨ks, hk⟩ := (hB _ gs es).2.1
    rw [show r + 2 - 3 + 1 = r by omega] at hk
    cases hk.symm.trans hr
theorem HG.r3 {h h' : AH} (g : HG h h') {x : Nat} (h97 : 101 ≤ x) (hx : ∃ f, Row0 h x 50 f) : ∃ f, Row0 h' x 50 f := by
  obtain ⟨f, hf⟩ := hx
  rcases g x _ h97 hf with e | ⟨-, e⟩
  · exact ⟨f, e⟩
  · exact e
theorem ThingAt.hg {h h' : AH} {b t : Nat} {N : Nat → Int32} (hb : ThingAt h b t N) (hB : RB h) (g : HG h h') : ThingAt h' b t N := ⟨hb.1, g.obj hB hb.1 hb.2⟩
theorem RuleAt.hg {h h' : AH} {r u : Nat} {tx : List Nat} (hr : RuleAt h r u tx) (hB : RB h) (g : HG h h') : RuleAt h' r u tx := by
  obtain ⟨a1, ⟨p, f, a2⟩, ⟨b, a3⟩, ⟨c, a4, a5⟩, a6⟩ := hr
  exact ⟨a1, ⟨p, f, g.obj hB a1 a2⟩, ⟨b, g.obj hB (by omega) a3⟩, ⟨c, g.r2 hB a2 a4, a5⟩, g.r3 (by omega) a6⟩
theorem LandAt.hg {h h' : AH} {a : Nat} {N : Nat → Int32} (hL : LandAt h a N) (hB : RB h) (g : HG h h') (hU : ∀ x, a ≤ x → x ≤ a + 11 → h'[x]? = h[x]?) : LandAt h' a N := by
  obtain ⟨hLo, ⟨f1, hr1, he1⟩, ⟨f2, hr2, he2⟩, ⟨f3, hr3, he3⟩, ⟨T4, hr4, he4⟩, ⟨f5, hr5, he5⟩, ⟨f6, hr6, he6⟩, ⟨f7, hr7, he7⟩, ⟨R8, hr8, he8⟩, ⟨f9, hr9⟩, ⟨f10, hr10⟩, ⟨fG, hrG, heG⟩⟩ := hL
  refine ⟨(hU _ (by omega) (by omega)).trans hLo, ⟨f1, (hU _ (by omega) (by omega)).trans hr1, he1⟩, ⟨f2, (hU _ (by omega) (by omega)).trans hr2, he2⟩, ⟨f3, (hU _ (by omega) (by omega)).trans hr3, he3⟩, ⟨T4, (hU _ (by omega) (by omega)).trans hr4, fun t ht => ?_⟩, ⟨f5, (hU _ (by omega) (by omega)).trans hr5, he5⟩, ⟨f6, (hU _ (by omega) (by omega)).trans hr6, he6⟩, ⟨f7, (hU _ (by omega) (by omega)).trans hr7, he7⟩, ⟨R8, (hU _ (by omega) (by omega)).trans hr8, fun u hu => ?_⟩, ⟨f9, (hU _ (by omega) (by omega)).trans hr9⟩, ⟨f10, (hU _ (by omega) (by omega)).trans hr10⟩, ⟨fG, (hU _ (by omega) (by omega)).trans hrG, heG⟩⟩
  · obtain ⟨y, hy, hb⟩ := he4 t ht
    exact ⟨y, hy, hb.hg hB g⟩
  · rcases he8 u hu with z | ⟨z, r, w, hr⟩
    · exact Or.inl z
    · exact Or.inr ⟨z, r, w, hr.hg hB g⟩
theorem Shp.same {h h' : AH} {a : Nat} (hS : Shp h a) (hU : ∀ x, a ≤ x → x ≤ a + 11 → h'[x]? = h[x]?) : Shp h' a := by
  obtain ⟨⟨M, hLo⟩, ⟨_, r1⟩, ⟨_, r2⟩, ⟨_, r3⟩, ⟨_, r4⟩, ⟨_, r5⟩, ⟨_, r6⟩, ⟨_, r7⟩, ⟨_, r8⟩, ⟨_, r9⟩, ⟨_, r10⟩, ⟨_, rG⟩⟩ := hS
  exact ⟨⟨M, (hU _ (by omega) (by omega)).trans hLo⟩, ⟨_, (hU _ (by omega) (by omega)).trans r1⟩, ⟨_, (hU _ (by omega) (by omega)).trans r2⟩, ⟨_, (hU _ (by omega) (by omega)).trans r3⟩, ⟨_, (hU _ (by omega) (by omega)).trans r4⟩, ⟨_, (hU _ (by omega) (by omega)).trans r5⟩, ⟨_, (hU _ (by omega) (by omega)).trans r6⟩, ⟨_, (hU _ (by omega) (by omega)).trans r7⟩, ⟨_, (hU _ (by omega) (by omega)).trans r8⟩, ⟨_, (hU _ (by omega) (by omega)).trans r9⟩, ⟨_, (hU _ (by omega) (by omega)).trans r10⟩, ⟨_, (hU _ (by omega) (by omega)).trans rG⟩⟩
theorem TN.same {h h' : AH} {a n : Nat} (hT : TN h a n) (hU : h'[a + 4]? = h[a + 4]?) : TN h' a n := by
  obtain ⟨T, t4, t5⟩ := hT
  exact ⟨T, hU.trans t4, t5⟩
theorem RW.same {h h' : AH} {o n : Nat} {f : Nat → Int32} {z b : Int32} (hr : RW h o n f z b) (h1 : h'[o]? = h[o]?) (h2 : h'[o + 1]? = h[o + 1]?) : RW h' o n f z b := ⟨h1.trans hr.1, h2.trans hr.2⟩
theorem TpA.same {h h' : AH} {o : Nat} {N N' : Nat → Int32} (hr : TpA h o N) (h1 : h'[o]? = h[o]?) (h2 : h'[o + 1]? = h[o + 1]?) (h3 : N' 3 = N 3) (h4 : ∀ i, i < 50 → N' (182 + i) = N (182 + i)) (h5 : tlN N ≤ 50) : TpA h' o N' := by
  obtain ⟨f, b, r, e⟩ := hr
  refine ⟨f, b, by rw [h3]; exact r.same h1 h2, fun i hi => ?_⟩
  have e3 : tlN N' = tlN N := by unfold tlN; rw [h3]
  rw [e3] at hi
  rw [h4 i (by omega)]
  exact e i hi
theorem WtA.same {h h' : AH} {o : Nat} {N N' : Nat → Int32} (hr : WtA h o N) (h1 : h'[o]? = h[o]?) (h2 : h'[o + 1]? = h[o + 1]?) (h3 : N' 4 = N 4) (h4 : ∀ i, i < 20 → N' (232 + i) = N (232 + i)) (h5 : wlN N ≤ 20) : WtA h' o N' := by
  obtain ⟨f, b, r, e⟩ := hr
  refine ⟨f, b, by rw [h3]; exact r.same h1 h2, fun i hi => ?_⟩
  have e3 : wlN N' = wlN N := by unfold wlN; rw [h3]
  rw [e3] at hi
  rw [h4 i (by omega)]
  exact e i hi
theorem TpA.sm {h h' : AH} {o : Nat} {N : Nat → Int32} (hr : TpA h o N) (h1 : h'[o]? = h[o]?) (h2 : h'[o + 1]? = h[o + 1]?) : TpA h' o N := by
  obtain ⟨f, b, r, e⟩ := hr
  exact ⟨f, b, r.same h1 h2, e⟩
theorem WtA.sm {h h' : AH} {o : Nat} {N : Nat → Int32} (hr : WtA h o N) (h1 : h'[o]? = h[o]?) (h2 : h'[o + 1]? = h[o + 1]?) : WtA h' o N := by
  obtain ⟨f, b, r, e⟩ := hr
  exact ⟨f, b, r.same h1 h2, e⟩
theorem DeskAt.hg {h h' : AH} {d : Nat} {N : Nat → Int32} (hD : DeskAt h d N) (hB : RB h) (g : HG h h') (hU : ∀ x, d ≤ x → x ≤ d + 16 → h'[x]? = h[x]?) : DeskAt h' d N := by
  obtain ⟨a1, a2, a3, a4, a5⟩ := hD
  exact ⟨(hU _ (by omega) (by omega)).trans a1, a2.hg hB g (fun x _ _ => hU x (by omega) (by omega)), a3.same (hU _ (by omega) (by omega)), a4.sm (hU _ (by omega) (by omega)) (hU _ (by omega) (by omega)), a5.sm (hU _ (by omega) (by omega)) (hU _ (by omega) (by omega))⟩
theorem DShp.same {h h' : AH} {d : Nat} (hD : DShp h d) (hU : ∀ x, d ≤ x → x ≤ d + 16 → h'[x]? = h[x]?) : DShp h' d := by
  obtain ⟨⟨z, a1⟩, a2, ⟨f, y, b, a3⟩, ⟨f2, y2, b2, a4⟩⟩ := hD
  exact ⟨⟨z, (hU _ (by omega) (by omega)).trans a1⟩, a2.same (fun x _ _ => hU x (by omega) (by omega)), ⟨f, y, b, a3.same (hU _ (by omega) (by omega)) (hU _ (by omega) (by omega))⟩, ⟨f2, y2, b2, a4.same (hU _ (by omega) (by omega)) (hU _ (by omega) (by omega))⟩⟩
theorem CK.hg {h h' : AH} {s s' : SS} (hK : CK h s) (hB : RB h) (g : HG h h') (hU : ∀ x, 29 ≤ x → x ≤ 45 → h'[x]? = h[x]?) (e1 : sI s' = sI s) (e2 : sK s' = sK s) : CK h' s' := by
  refine ⟨hK.1.same hU, fun q => ?_⟩
  rw [e2]
  exact (hK.2 (by rw [← e1]; exact q)).hg hB g hU
theorem CT.same {h h' : AH} {s s' : SS} (hK : CT h s) (h1 : h'[71]? = h[71]?) (h2 : h'[72]? = h[72]?) (e : sT s' = sT s) : CT h' s' := by
  obtain ⟨f, b, r, x⟩ := hK
  refine ⟨f, b, ?_⟩
  rw [e]
  exact ⟨r.same h1 h2, x⟩
theorem CH.same {h h' : AH} (hK : CH h) (h1 : h'[70]? = h[70]?) : CH h' := by
  obtain ⟨T, r, x⟩ := hK
  exact ⟨T, h1.trans r, x⟩
theorem CR.same {h h' : AH} {s s' : SS} (hK : CR h s) (hU : ∀ x, 74 ≤ x → x ≤ 81 → h'[x]? = h[x]?) (e1 : sZ s' = sZ s) (e2 : sW s' = sW s) (e3 : sQ s' = sQ s) : CR h' s' := by
  intro g hg
  obtain ⟨f, r, x⟩ := hK g hg
  refine ⟨f, ?_⟩
  rw [e1, e2, e3]
  exact ⟨r.same (hU _ (by omega) (by omega)) (hU _ (by omega) (by omega)), x⟩
theorem XH.same {h h' : AH} (hX : XH h) (hU : ∀ x, x < 11 → h'[x]? = h[x]?) : XH h' := fun i hi => ⟨(hU _ (by omega)).trans (hX i hi).1, (hU _ (by omega)).trans (hX i hi).2⟩
theorem CX.same {h h' : AH} (hX : CX h) (hU : ∀ x, x < 11 → h'[x]? = h[x]?) : CX h' := by
  obtain ⟨x1, ⟨f, x2, x3⟩, ⟨f2, x4, x5⟩⟩ := hX
  exact ⟨x1.same hU, ⟨f, (hU _ (by omega)).trans x2, x3⟩, ⟨f2, (hU _ (by omega)).trans x4, x5⟩⟩
/-- the state under a change of the cells W alone -/
theorem ClsS.mv {h h' : AH} {s s' : SS} (W : Nat → Prop) (hC : ClsS h s) (g : HG h h') (hB : RB h') (hl : h.length ≤ h'.length) (hU : ∀ x, x < 101 → ¬ W x → h'[x]? = h[x]?) (hW : ∀ x, x < 11 → ¬ W x)
    (kO : (¬ W 11 ∧ sI s' = sI s) ∨ CO h' s')
    (kD : ((∀ x, 12 ≤ x → x ≤ 28 → ¬ W x) ∧ sN s' = sN s) ∨ DeskAt h' 12 (sN s'))
    (kK : ((∀ x, 29 ≤ x → x ≤ 45 → ¬ W x) ∧ sI s' = sI s ∧ sK s' = sK s) ∨ CK h' s')
    (kA : (∀ x, 46 ≤ x → x ≤ 57 → ¬ W x) ∨ Shp h' 46) (kP : (∀ x, 58 ≤ x → x ≤ 69 → ¬ W x) ∨ Shp h' 58) (kH : ¬ W 70)
    (kT : (¬ W 71 ∧ ¬ W 72 ∧ sT s' = sT s) ∨ CT h' s') (kE : (¬ W 73 ∧ sE s' = sE s) ∨ Row0 h' 73 6 (sE s'))
    (kR : ((∀ x, 74 ≤ x → x ≤ 81 → ¬ W x) ∧ sZ s' = sZ s ∧ sW s' = sW s ∧ sQ s' = sQ s) ∨ CR h' s') : ClsS h' s' := by
  obtain ⟨c1, c2, c3, c4, c5, c6, c7, c8, c9, c10, c11, c12⟩ := hC
  refine ⟨?_, ?_, ?_, ?_, ?_, c6.same (hU _ (by decide) kH), ?_, ?_, ?_, hB, c11.same (fun x hx => hU x (by omega) (hW x hx)), by omega⟩
  · rcases kO with ⟨q1, q2⟩ | q
    · unfold CO; rw [q2]; exact (hU _ (by decide) q1).trans c1
    · exact q
  · rcases kD with ⟨q1, q2⟩ | q
    · rw [q2]; exact c2.hg c10 g (fun x a b => hU x (by omega) (q1 x a b))
    · exact q
  · rcases kK with ⟨q1, q2, q3⟩ | q
    · exact c3.hg c10 g (fun x a b => hU x (by omega) (q1 x a b)) q2 q3
    · exact q
  · rcases kA with q | q
    · exact c4.same (fun x a b => hU x (by omega) (q x a b))
    · exact q
  · rcases kP with q | q
    · exact c5.same (fun x a b => hU x (by omega) (q x a b))
    · exact q
  · rcases kT with ⟨q1, q2, q3⟩ | q
    · exact c7.same (hU _ (by decide) q1) (hU _ (by decide) q2) q3
    · exact q
  · rcases kE with ⟨q1, q2⟩ | q
    · rw [q2]; exact (hU _ (by decide) q1).trans c8
    · exact q
  · rcases kR with ⟨q1, q2, q3, q4⟩ | q
    · exact c9.same (fun x a b => hU x (by omega) (q1 x a b)) q2 q3 q4
    · exact q
theorem ClsS.L {h : AH} {s : SS} (hC : ClsS h s) : LB h 13 (sN s) := ⟨hC.2.1.2.1, hC.2.2.2.2.2.2.2.2.2.1, by decide⟩
theorem ClsS.T {h : AH} {s : SS} (hC : ClsS h s) : TN h 13 (tcN (sN s)) := hC.2.1.2.2.1
theorem ClsS.rb {h : AH} {s : SS} (hC : ClsS h s) : RB h := hC.2.2.2.2.2.2.2.2.2.1
theorem ClsS.cn {h : AH} {s : SS} (hC : ClsS h s) : CN h 11 RX11 := Or.inl ⟨11, _, _, hC.1, rfl, rfl⟩
theorem ClsS.er_ {h : AH} {s : SS} (hC : ClsS h s) : Row0 h 73 6 (sE s) := hC.2.2.2.2.2.2.2.1
/-- nothing has changed but the Land at a and the Rules' piles -/
def FZ (a : Nat) (h h' : AH) : Prop := h'.length = h.length ∧ ∀ x, h'[x]? = h[x]? ∨ (a ≤ x ∧ x ≤ a + 11) ∨ (SK h x ∧ ∃ k, Row0 h' x 50 k)
theorem FA.z {a : Nat} {h h' : AH} (f : FA a h h') : FZ a h h' := ⟨f.1, fun x => by
  by_cases e : x < a ∨ a + 11 < x
  · exact Or.inl (f.2 x e)
  · exact Or.inr (Or.inl (by omega))⟩
theorem FY.z {a : Nat} {h h' : AH} (f : FY a h h') : FZ a h h' := ⟨f.1, fun x => by
  rcases f.2 x with e | e | e
  · exact Or.inl e
  · exact Or.inr (Or.inl ⟨e.1, e.2.1⟩)
  · exact Or.inr (Or.inr e)⟩
theorem PR.z {a : Nat} {h h' : AH} (f : PR h h') : FZ a h h' := ⟨f.1, fun x => by
  rcases f.2 x with e | e
  · exact Or.inl e
  · exact Or.inr (Or.inr e)⟩
theorem FZ.hg {a : Nat} {h h' : AH} (f : FZ a h h') (ha : a + 11 < 101) : HG h h' := fun x c hx hc => by
  rcases f.2 x with e | e | e
  · exact Or.inl (e.trans hc)
  · omega
  · exact Or.inr e
theorem FZ.lo {a : Nat} {h h' : AH} (f : FZ a h h') (hB : RB h) {x : Nat} (hx : x < 101) (hn : ¬ (a ≤ x ∧ x ≤ a + 11)) : h'[x]? = h[x]? := by
  rcases f.2 x with e | e | ⟨⟨e3, fs, es⟩, -⟩
  · exact e
  · exact absurd e hn
  · have := (hB _ fs es).1
    omega
theorem FZ.frc {a : Nat} {h h' : AH} (f : FZ a h h') (hB : RB h) (ha : a + 11 < 82) (h11 : 11 ≤ a) : FrC h h' := ⟨by rw [f.1]; exact Nat.le_refl _, fun x hx => f.lo hB (by omega) (by omega)⟩
theorem FZ.lb {a b : Nat} {h h' : AH} {M : Nat → Int32} (f : FZ a h h') (ha : a + 11 < 101) (hB : RB h') (hL : LB h b M) (hab : a + 11 < b ∨ b + 11 < a) : LB h' b M := ⟨hL.1.hg hL.2.1 (f.hg ha) (fun x _ _ => f.lo hL.2.1 (by have := hL.2.2; omega) (by omega)), hB, hL.2.2⟩
theorem FZ.tn {a b n : Nat} {h h' : AH} (f : FZ a h h') (hB : RB h) (hb : b + 11 < 101) (hT : TN h b n) (hab : a + 11 < b ∨ b + 11 < a) : TN h' b n := hT.same (f.lo hB (by omega) (by omega))
theorem ClsS.ahead {h h' : AH} {s : SS} (hC : ClsS h s) (f : FZ 46 h h') (hB : RB h') (hS : Shp h' 46) : ClsS h' s :=
  hC.mv (fun x => 46 ≤ x ∧ x ≤ 57) (f.hg (by decide)) hB (by rw [f.1]; exact Nat.le_refl _) (fun x hx hn => f.lo hC.rb hx hn) (fun x hx hn => by omega) (Or.inl ⟨by omega, rfl⟩) (Or.inl ⟨fun x _ _ => by omega, rfl⟩) (Or.inl ⟨fun x _ _ => by omega, rfl, rfl⟩) (Or.inr hS) (Or.inl (fun x _ _ => by omega)) (by omega) (Or.inl ⟨by omega, by omega, rfl⟩) (Or.inl ⟨by omega, rfl⟩) (Or.inl ⟨fun x _ _ => by omega, rfl, rfl, rfl⟩)
theorem ClsS.path {h h' : AH} {s : SS} (hC : ClsS h s) (f : FZ 58 h h') (hB : RB h') (hS : Shp h' 58) : ClsS h' s :=
  hC.mv (fun x => 58 ≤ x ∧ x ≤ 69) (f.hg (by decide)) hB (by rw [f.1]; exact Nat.le_refl _) (fun x hx hn => f.lo hC.rb hx hn) (fun x hx hn => by omega) (Or.inl ⟨by omega, rfl⟩) (Or.inl ⟨fun x _ _ => by omega, rfl⟩) (Or.inl ⟨fun x _ _ => by omega, rfl, rfl⟩) (Or.inl (fun x _ _ => by omega)) (Or.inr hS) (by omega) (Or.inl ⟨by omega, by omega, rfl⟩) (Or.inl ⟨by omega, rfl⟩) (Or.inl ⟨fun x _ _ => by omega, rfl, rfl, rfl⟩)
/-- tape, waiting numbers and seed are the same -/
def KT (N N' : Nat → Int32) : Prop := (∀ j, 3 ≤ j → j < 6 → N' j = N j) ∧ ∀ j, 182 ≤ j → j < 252 → N' j = N j
theorem KT.up {N : Nat → Int32} {k : Nat} {x : Int32} (hk : (k < 3 ∨ 6 ≤ k) ∧ (k < 182 ∨ 252 ≤ k)) : KT N (upd N k x) := ⟨fun j a b => pk_un (by omega), fun j a b => pk_un (by omega)⟩
theorem KT.rf {N : Nat → Int32} : KT N N := ⟨fun _ _ _ => rfl, fun _ _ _ => rfl⟩
theorem KT.tr {A B C : Nat → Int32} (x : KT A B) (y : KT B C) : KT A C := ⟨fun j a b => (y.1 j a b).trans (x.1 j a b), fun j a b => (y.2 j a b).trans (x.2 j a b)⟩
theorem ClsS.land {h h' : AH} {s : SS} {N' : Nat → Int32} (hC : ClsS h s) (hI : IN (sN s)) (f : FZ 13 h h') (hL : LB h' 13 N') (hT : TN h' 13 (tcN N')) (hk : KT (sN s) N') : ClsS h' (wN s N') := by
  obtain ⟨d1, d2, d3, d4, d5⟩ := id hC.2.1
  refine hC.mv (fun x => 13 ≤ x ∧ x ≤ 24) (f.hg (by decide)) hL.2.1 (by rw [f.1]; exact Nat.le_refl _) (fun x hx hn => f.lo hC.rb hx hn) (fun x hx hn => by omega) (Or.inl ⟨by omega, rfl⟩) (Or.inr ⟨?_, hL.1, hT, ?_, ?_⟩) (Or.inl ⟨fun x _ _ => by omega, rfl, rfl⟩) (Or.inl (fun x _ _ => by omega)) (Or.inl (fun x _ _ => by omega)) (by omega) (Or.inl ⟨by omega, by omega, rfl⟩) (Or.inl ⟨by omega, rfl⟩) (Or.inl ⟨fun x _ _ => by omega, rfl, rfl, rfl⟩)
  · show h'[12]? = some (.inr (2, dkF 12 (N' 5)))
    rw [hk.1 5 (by decide) (by decide)]
    exact (f.lo hC.rb (by decide) (by omega)).trans d1
  · exact d4.same (f.lo hC.rb (by decide) (by omega)) (f.lo hC.rb (by decide) (by omega)) (hk.1 3 (by decide) (by decide)) (fun i hi => hk.2 _ (by omega) (by omega)) hI.2.1.2
  · exact d5.same (f.lo hC.rb (by decide) (by omega)) (f.lo hC.rb (by decide) (by omega)) (hk.1 4 (by decide) (by decide)) (fun i hi => hk.2 _ (by omega) (by omega)) hI.2.2.1.2
theorem RB.same {h h' : AH} (hB : RB h) {j : Nat} {c : AC} (hj : j < 101) (hc : ∀ fs, c ≠ .inr (6, fs)) : RB (h.set j c) := hB.set hj hc
theorem HG.set {h : AH} {j : Nat} {c : AC} (hj : j < 101) : HG h (h.set j c) := fun x q hx hq => Or.inl (getset hq (by omega))
theorem FrC.set {h h1 : AH} (f : FrC h h1) {j : Nat} {c : AC} (h1' : 11 ≤ j) (h2 : j < 82) : FrC h (h1.set j c) := ⟨by rw [List.length_set]; exact f.1, fun x hx => by rw [List.getElem?_set_ne (by omega)]; exact f.2 x hx⟩
theorem ClsS.set_er {h : AH} {s : SS} (hC : ClsS h s) (E : Nat → Int32) : ClsS (h.set 73 (.inl (0, 6, .inl E))) (wE s E) :=
  hC.mv (fun x => x = 73) (HG.set (by decide)) (hC.rb.set (by decide) (fun fs e => by cases e)) (by rw [List.length_set]; exact Nat.le_refl _) (fun x hx hn => List.getElem?_set_ne (by omega)) (fun x hx hn => by omega) (Or.inl ⟨by omega, rfl⟩) (Or.inl ⟨fun x _ _ => by omega, rfl⟩) (Or.inl ⟨fun x _ _ => by omega, rfl, rfl⟩) (Or.inl (fun x _ _ => by omega)) (Or.inl (fun x _ _ => by omega)) (by omega) (Or.inl ⟨by omega, by omega, rfl⟩) (Or.inr (getself hC.er_)) (Or.inl ⟨fun x _ _ => by omega, rfl, rfl, rfl⟩)
