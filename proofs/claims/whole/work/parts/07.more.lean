/-! MORE: statics, texts, new cells, rows of references, copies, Object's own -/
theorem e_gets {D : En} {d : Nat} {M : Mt} {pc : Nat} {ls : List (Option Value)} {st : List Value} {h : AH} {nc ns : Nat} {post : Option Value → AH → Prop} {idx : Nat} {C n ds : String} {v : Value} (hd : decode M.2.1 pc = .ok (.getstatic idx, 3)) (hl : Cond.fieldLink M.1.cls idx C n ds ∈ tG) (hz : ∀ s, XF D s → va_Z C n ds (cv D v) (eQ D) s s.heap) (kk : Ev D d M (pc + 3) ls (v :: st) h nc ns post) : Ev D d M pc ls st h nc ns post := by
  intro p e R s m args below meth c H locs cells slots mcT msT lsA F hH hS hL h1 h2 h3 h4
  obtain ⟨g1, g2, g3, g4, g5, g6, g7, g8, g9, g10, -⟩ := id F
  exact va_gets g1 g2 (hz s g9) hS g7 (g8 _ hl) (fun _ h9 => h9) hd (kk p e R s m args below meth c H locs cells slots mcT msT lsA F hH hS hL h1 h2 h3 h4)
theorem z_least (D : En) (s : State) (h : XF D s) : va_Z "EmptyLand" "RATE_LEAST" "[I" (cv D (.ref 1)) (eQ D) s s.heap := by
  show va_Z _ _ _ (.ref (ad D 1)) _ _ _
  rw [ad_lo D (by decide)]; exact h.2.2.1.1
theorem z_most (D : En) (s : State) (h : XF D s) : va_Z "EmptyLand" "RATE_MOST" "[I" (cv D (.ref 2)) (eQ D) s s.heap := by
  show va_Z _ _ _ (.ref (ad D 2)) _ _ _
  rw [ad_lo D (by decide)]; exact h.2.2.1.2.1
theorem z_compact (D : En) (s : State) (h : XF D s) : va_Z "java/lang/String" "COMPACT_STRINGS" "Z" (cv D (.int 1)) (eQ D) s s.heap := h.2.2.1.2.2.2.1
/-- the static row that another class of the nest reads -/
theorem e_getsFirst {D : En} {d : Nat} {M : Mt} {pc : Nat} {ls : List (Option Value)} {st : List Value} {h : AH} {nc ns : Nat} {post : Option Value → AH → Prop} (hM : M.1.cls = "EmptyLand$Land") (hd : decode M.2.1 pc = .ok (.getstatic 52, 3)) (kk : Ev D d M (pc + 3) ls (.ref 3 :: st) h nc ns post) : Ev D d M pc ls st h nc ns post := by
  intro p e R s m args below meth c H locs cells slots mcT msT lsA F hH hS hL h1 h2 h3 h4
  obtain ⟨g1, g2, g3, g4, g5, g6, g7, g8, g9, g10, -⟩ := id F
  have k2 := kk p e R s m args below meth c H locs cells slots mcT msT lsA F hH hS hL h1 h2 h3 h4
  have k3 : W p (eL D) e R s m args below meth c H locs cells slots (MQ below (Qc D post) args s mcT msT (eQ D)) (F0 m (pc + 3) lsA (.ref (eX D 3) :: st.map (cv D))) := by
    rw [List.map_cons, show cv D (.ref 3) = .ref (ad D 3) from rfl, ad_lo D (by decide)] at k2
    exact k2
  exact va_getsN g1 g2 g9.2.2.1.2.2.1 hS (by rw [← hM]; exact g7) (va_Nw.use rfl g9.2.2.2.2.2.1.2) (fun _ h9 => h9) hd k3
/-- the formatter: a reference or null, nobody looks -/
theorem e_getsFmt {D : En} {d : Nat} {M : Mt} {pc : Nat} {ls : List (Option Value)} {st : List Value} {h : AH} {nc ns : Nat} {post : Option Value → AH → Prop} {idx : Nat} (hd : decode M.2.1 pc = .ok (.getstatic idx, 3)) (hl : Cond.fieldLink M.1.cls idx "jdk/internal/util/Preconditions" "SIOOBE_FORMATTER" "Ljava/util/function/BiFunction;" ∈ tG) (kk : ∀ v : Value, (v = .null ∨ v = .ref 10) → Ev D d M (pc + 3) ls (v :: st) h nc ns post) : Ev D d M pc ls st h nc ns post := by
  intro p e R s m args below meth c H locs cells slots mcT msT lsA F hH hS hL h1 h2 h3 h4
  obtain ⟨g1, g2, g3, g4, g5, g6, g7, g8, g9, g10, -⟩ := id F
  obtain ⟨v, hv, hz⟩ := g9.2.2.1.2.2.2.2
  have : ∃ w : Value, (w = .null ∨ w = .ref 10) ∧ cv D w = v := by
    rcases hv with rfl | rfl
    · exact ⟨.null, Or.inl rfl, rfl⟩
    · exact ⟨.ref 10, Or.inr rfl, by show Value.ref (ad D 10) = _; rw [ad_lo D (by decide)]⟩
  obtain ⟨w, hw, e2⟩ := this
  rw [← e2] at hz
  exact va_gets g1 g2 hz hS g7 (g8 _ hl) (fun _ h9 => h9) hd (kk w hw p e R s m args below meth c H locs cells slots mcT msT lsA F hH hS hL h1 h2 h3 h4)
/-- a text constant -/
theorem e_ldcS {D : En} {d : Nat} {M : Mt} {pc : Nat} {ls : List (Option Value)} {st : List Value} {h : AH} {nc ns : Nat} {post : Option Value → AH → Prop} {idx : Nat} {tx : String} (a : Nat) (ha : a < nX) (hd : decode M.2.1 pc = .ok (.ldc idx, 2)) (hz : ∀ s, XF D s → vk_R M.1.cls idx tx (eX D a) s) (kk : Ev D d M (pc + 2) ls (.ref a :: st) h nc ns post) : Ev D d M pc ls st h nc ns post := by
  intro p e R s m args below meth c H locs cells slots mcT msT lsA F hH hS hL h1 h2 h3 h4
  obtain ⟨g1, g2, g3, g4, g5, g6, g7, g8, g9, g10, -⟩ := id F
  have k2 := kk p e R s m args below meth c H locs cells slots mcT msT lsA F hH hS hL h1 h2 h3 h4
  rw [List.map_cons, show cv D (.ref a) = .ref (ad D a) from rfl, ad_lo D ha] at k2
  exact va_ldcS g1 g2 g7 (hz s g9) hd k2
/-- a text's own fields -/
theorem e_getT {D : En} {d : Nat} {M : Mt} {pc : Nat} {ls : List (Option Value)} {st : List Value} {h : AH} {nc ns : Nat} {post : Option Value → AH → Prop} {idx a b : Nat} (ha : a < nX) (hd : decode M.2.1 pc = .ok (.getfield idx, 3)) (hl : Cond.fieldLink M.1.cls idx "java/lang/String" "value" "[B" ∈ tG) (hc : h[a]? = some (.inr (13, [.ref b, .int 0]))) (kk : Ev D d M (pc + 3) ls (.ref b :: st) h nc ns post) : Ev D d M pc ls (.ref a :: st) h nc ns post := by
  intro p e R s m args below meth c H locs cells slots mcT msT lsA F hH hS hL h1 h2 h3 h4
  obtain ⟨g1, g2, g3, g4, g5, g6, g7, g8, g9, g10, -⟩ := id F
  have hA := g9.1 a ha
  unfold XA at hA
  rw [hH.lo ha, hc] at hA
  obtain ⟨-, q1, v, q2, q3, q4, q5⟩ := hA
  cases q2
  have k2 := kk p e R s m args below meth c H locs cells slots mcT msT lsA F hH hS hL h1 h2 h3 h4
  rw [List.map_cons, show cv D (.ref b) = .ref (ad D b) from rfl, ad_lo D q3] at k2
  refine W.eq (g2 := F0 m pc lsA (.ref (eX D a) :: st.map (cv D))) (by show F0 m pc lsA (.ref (ad D a) :: st.map (cv D)) = _; rw [ad_lo D ha]) ?_
  exact vk_getf g1 g2 q4 hS g7 (g8 _ hl) (fun _ h9 => h9) hd k2
theorem e_getTc {D : En} {d : Nat} {M : Mt} {pc : Nat} {ls : List (Option Value)} {st : List Value} {h : AH} {nc ns : Nat} {post : Option Value → AH → Prop} {idx a b : Nat} (ha : a < nX) (hd : decode M.2.1 pc = .ok (.getfield idx, 3)) (hl : Cond.fieldLink M.1.cls idx "java/lang/String" "coder" "B" ∈ tG) (hc : h[a]? = some (.inr (13, [.ref b, .int 0]))) (kk : Ev D d M (pc + 3) ls (.int 0 :: st) h nc ns post) : Ev D d M pc ls (.ref a :: st) h nc ns post := by
  intro p e R s m args below meth c H locs cells slots mcT msT lsA F hH hS hL h1 h2 h3 h4
  obtain ⟨g1, g2, g3, g4, g5, g6, g7, g8, g9, g10, -⟩ := id F
  have hA := g9.1 a ha
  unfold XA at hA
  rw [hH.lo ha, hc] at hA
  obtain ⟨-, q1, v, q2, q3, q4, q5⟩ := hA
  refine W.eq (g2 := F0 m pc lsA (.ref (eX D a) :: st.map (cv D))) (by show F0 m pc lsA (.ref (ad D a) :: st.map (cv D)) = _; rw [ad_lo D ha]) ?_
  exact vk_getf g1 g2 q5 hS g7 (g8 _ hl) (fun _ h9 => h9) hd (kk p e R s m args below meth c H locs cells slots mcT msT lsA F hH hS hL h1 h2 h3 h4)
/-- a new object -/
def dfl (N : Nat) (ty0 : Nat → FieldType) : List Value := (List.range N).map (fun j => defaultValue (ty0 j))
def NW (own : String) (idx ci N : Nat) : Prop := ∃ (C : String) (T : u_T), vwCl[ci]? = some (C, T, N) ∧ (∀ w ∈ u_ws C T N, w ∈ tG) ∧ Cond.classLink own idx C ∈ tG ∧ Cond.instantiable C N ∈ tG ∧ Cond.initialized C ∈ tG
theorem cv_dfl (D : En) (t : FieldType) : cv D (defaultValue t) = defaultValue t := by cases t <;> rfl
theorem e_new {D : En} {d : Nat} {M : Mt} {pc : Nat} {ls : List (Option Value)} {st : List Value} {h : AH} {nc ns : Nat} {post : Option Value → AH → Prop} {idx ci N : Nat} {ty0 : Nat → FieldType} {fs : List Value} (hd : decode M.2.1 pc = .ok (.new idx, 3)) (hn : NW M.1.cls idx ci N) (hft : FT ci ty0) (hfs : dfl N ty0 = fs) (kk : Ev D d M (pc + 3) ls (.ref h.length :: st) (h ++ [.inr (ci, fs)]) nc ns post) : Ev D d M pc ls st h (nc + 1) (ns + N) post := by
  subst hfs
  intro p e R s m args below meth c H locs cells slots mcT msT lsA F hH hS hL h1 h2 h3 h4
  obtain ⟨g1, g2, g3, g4, g5, g6, g7, g8, g9, g10, -⟩ := id F
  obtain ⟨C, T, f1, f2, f3, f4, f5⟩ := hn
  obtain ⟨C', T', N', t1, t2, t3⟩ := hft
  cases f1.symm.trans t1
  refine W_tight fun c0 hc0 hz0 => ?_
  refine va_new (Ts := tG) (fs := (dfl N ty0).map (cv D)) g1 g2 g8 f2 ty0 t2 g7 (g8 _ f3) (g8 _ f4) (g8 _ f5) g10 hH.1 hH.2.1 hS (fun q hq => Nat.le_trans g9.2.2.2.2.2.2.1 hq) f1 (fun j hj => ?_) (by omega) (by omega) hd fun q H1 hP1 hD1 hS1 => ?_
  · simp [vp_V, dfl, hj, cv_dfl]
  · refine W_size fun hz1 => ?_
    obtain ⟨hH1, hq⟩ := hH.push (c := .inr (ci, dfl N ty0)) hP1 hD1 (by omega)
    subst hq
    exact kk p e R s m args below meth c H1 locs (c0 + 1) (slots + N) mcT msT lsA F hH1 hS1 hL (by omega) (by omega) h3 h4
theorem e_newarray {D : En} {d : Nat} {M : Mt} {pc : Nat} {ls : List (Option Value)} {st : List Value} {h : AH} {nc ns : Nat} {post : Option Value → AH → Prop} {n : Int32} (N : Nat) (hd : decode M.2.1 pc = .ok (.newarray .int, 2)) (hw : Cond.arrayClass .int ∈ tG) (hn : n = nI N) (hN : N ≤ 1000) (kk : Ev D d M (pc + 2) ls (.ref h.length :: st) (h ++ [.inl (0, N, .inl (fun _ => 0))]) nc ns post) : Ev D d M pc ls (.int n :: st) h (nc + 1) (ns + N) post := by
  intro p e R s m args below meth c H locs cells slots mcT msT lsA F hH hS hL h1 h2 h3 h4
  obtain ⟨g1, g2, g3, g4, g5, g6, g7, g8, g9, g10, -⟩ := id F
  have hc1 : ¬ n < 0 := by rw [hn]; exact nI_pos (by omega)
  have hc2 : n.toNatClampNeg = N := by rw [hn]; exact nI_clamp (by omega)
  refine W_tight fun c0 hc0 hz0 => ?_
  refine va_newa (atype := .int) (ty := .int) (a0 := (N, .inl (fun _ => 0))) g1 g2 (g8 _ hw) rfl g10 hH.1 hH.2.1 hS (fun q hq => Nat.le_trans g9.2.2.2.2.2.2.1 hq) (fun cA => rfl) hc1 hc2 (by show N * 4 ≤ 536870912; omega) (by omega) (by omega) hd fun q cA H1 hK1 hP1 hD1 hS1 => ?_
  refine W_size fun hz1 => ?_
  have e1 : cA = eC D 0 := by
    have q1 : s.vm.findClass _ = some cA := (hK1.2 5 (cA, .int) rfl).2
    have q2 : s.vm.findClass _ = some (eC D 0) := (g10.2 0 (eC D 0, .int) rfl).2
    exact Option.some.inj (q1.symm.trans q2)
  subst e1
  obtain ⟨hH1, hq⟩ := hH.push (c := .inl (0, N, .inl (fun _ => 0))) hP1 hD1 (by omega)
  subst hq
  exact kk p e R s m args below meth c H1 locs (c0 + 1) (slots + N) mcT msT lsA F hH1 hS1 hL (by omega) (by omega) h3 h4
/-- the class names of the rows of references -/
def tyN (t : Nat) : String := match t with
  | 1 => "EmptyLand$Thing"
  | 2 => "EmptyLand$Rule"
  | 3 => "EmptyLand$Row"
  | _ => "java/lang/String"
theorem eT_at (D : En) {t : Nat} (ht : t = 1 ∨ t = 2 ∨ t = 3 ∨ t = 4) : (eT D)[t]? = some (eC D t, .object (tyN t)) := by
  rcases ht with rfl | rfl | rfl | rfl <;> rfl
theorem e_anewarray {D : En} {d : Nat} {M : Mt} {pc : Nat} {ls : List (Option Value)} {st : List Value} {h : AH} {nc ns : Nat} {post : Option Value → AH → Prop} {idx : Nat} {n : Int32} (t N : Nat) (ht : t = 1 ∨ t = 2 ∨ t = 3 ∨ t = 4) (hd : decode M.2.1 pc = .ok (.anewarray idx, 3)) (hw : Cond.classLink M.1.cls idx (tyN t) ∈ tG) (hn : n = nI N) (hN : N ≤ 1000) (kk : Ev D d M (pc + 3) ls (.ref h.length :: st) (h ++ [.inl (t, N, .inr (.inr (.inr (.inr (fun _ => none)))))]) nc ns post) : Ev D d M pc ls (.int n :: st) h (nc + 1) (ns + N) post := by
  intro p e R s m args below meth c H locs cells slots mcT msT lsA F hH hS hL h1 h2 h3 h4
  obtain ⟨g1, g2, g3, g4, g5, g6, g7, g8, g9, g10, -⟩ := id F
  have hc1 : ¬ n < 0 := by rw [hn]; exact nI_pos (by omega)
  have hc2 : n.toNatClampNeg = N := by rw [hn]; exact nI_clamp (by omega)
  have hover : va_AO (tyN t) s := by
    obtain ⟨o1, o2, o3, o4⟩ := g9.2.2.2.2.1
    rcases ht with rfl | rfl | rfl | rfl <;> assumption
  refine W_tight fun c0 hc0 hz0 => ?_
  refine va_newq g1 g2 g7 (g8 _ hw) hover g10 hH.1 hH.2.1 hS (fun q hq => Nat.le_trans g9.2.2.2.2.2.2.1 hq) hc1 hc2 (by omega) (by omega) (by omega) hd fun q cA H1 hK1 hP1 hD1 hS1 => ?_
  refine W_size fun hz1 => ?_
  have e1 : cA = eC D t := by
    obtain ⟨_, _, _, _, _, q1⟩ := (hK1.2 5 (cA, .object (tyN t)) rfl).2
    obtain ⟨_, _, _, _, _, q2⟩ := (g10.2 t _ (eT_at D ht)).2
    exact Option.some.inj (q1.symm.trans q2)
  subst e1
  obtain ⟨hH1, hq⟩ := hH.push (c := .inl (t, N, .inr (.inr (.inr (.inr (fun _ => none)))))) hP1 hD1 (by omega)
  subst hq
  exact kk p e R s m args below meth c H1 locs (c0 + 1) (slots + N) mcT msT lsA F hH1 hS1 hL (by omega) (by omega) h3 h4
/-- an object of a class may stand in a row of a kind -/
def AS (ci t : Nat) : Prop := ∃ (C : String) (T : u_T) (N : Nat), vwCl[ci]? = some (C, T, N) ∧ (C = tyN t ∨ (C, tyN t) ∈ castL)
/-- ... or it is a text -/
def ASh (h : AH) (t y : Nat) : Prop := (∃ (ci : Nat) (fs : List Value), h[y]? = some (.inr (ci, fs)) ∧ AS ci t) ∨ (t = 4 ∧ y < nX ∧ ∃ fs : List Value, h[y]? = some (.inr (13, fs)))
theorem AS_any {D : En} {s : State} {h : AH} {H : Heap} {locs : List Loc} {t y : Nat} (hx : XF D s) (hK : va_K (eG D) vwCl (eT D) s) (hH : HR D h H) (hS : va_S (eQ D) s.heap H locs) (ha : ASh h t y) : va_Any (tyN t) s H (ad D y) := by
  rcases ha with ⟨ci, fs, hc, C, T, N, f1, f2⟩ | ⟨rfl, hy, fs, hc⟩
  · have hy := hH.hiO hx hc (vw13 f1)
    refine va_rAny hK hH.1 (wsO_at hc hy) f1 (fun comp c0 q1 q2 => ?_)
    rcases f2 with f2 | f2
    · have q2 : s.vm.findClass C = some c0 := q2
      rw [f2, q1] at q2
      cases q2
      have := (hK.1 ci _ f1).2
      have e1 : comp = (eG D).1 ci := by
        have := this.1
        rw [show ((C, T, N) : vw_C).1 = C from rfl, f2, q1] at this
        exact Option.some.inj this
      subst e1
      exact va_assign this
    · obtain ⟨c1, t1, r1, r2, r3⟩ := Cond.castable_spec (va_Nw.use (A := #[]) rfl (hx.2.2.2.2.2.1.1 _ f2))
      have q2 : s.vm.findClass C = some c0 := q2
      cases q1.symm.trans r2
      cases q2.symm.trans r1
      exact r3
  · have hA := hx.1 y hy
    unfold XA at hA
    rw [hH.lo hy, hc] at hA
    obtain ⟨cell, z1, z2, z3, z4⟩ := hA.2.1.kept hS.2.1
    obtain ⟨kC, hkC, -⟩ := Vm.findClass_spec z3
    refine ⟨cell, by rw [ad_lo D hy]; exact z1, z2, ⟨kC, hkC⟩, fun comp hcomp => ?_⟩
    have e1 : cell.cls = comp := Option.some.inj (z3.symm.trans hcomp)
    rw [← e1]
    exact va_asg _ _
theorem e_aastore {D : En} {d : Nat} {M : Mt} {pc : Nat} {ls : List (Option Value)} {st : List Value} {h : AH} {nc ns : Nat} {post : Option Value → AH → Prop} {a t n y : Nat} {f : Nat → Option Nat} {i : Int32} (hd : decode M.2.1 pc = .ok (.aastore, 1)) (hc : h[a]? = some (.inl (t, n, .inr (.inr (.inr (.inr f)))))) (ht : t = 1 ∨ t = 2 ∨ t = 3 ∨ t = 4) (hy : ASh h t y) (hi : vp_in i n) (kk : Ev D d M (pc + 1) ls st (h.set a (.inl (t, n, .inr (.inr (.inr (.inr (va_up f i.toNatClampNeg (some y)))))))) nc ns post) : Ev D d M pc ls (.ref y :: .int i :: .ref a :: st) h nc ns post := by
  intro p e R s m args below meth c H locs cells slots mcT msT lsA F hH hS hL h1 h2 h3 h4
  obtain ⟨g1, g2, g3, g4, g5, g6, g7, g8, g9, g10, -⟩ := id F
  have ha := hH.hiQ g9 hc (by omega)
  have hal : a < h.length := (List.getElem?_eq_some_iff.mp hc).1
  refine W_tight fun c0 hc0 hz0 => ?_
  refine va_astqM g1 g2 g10 hH.1 hH.2.1 hS (a - nX) t (wsO_at hc ha) (eT_at D ht) (AS_any g9 g10 hH hS hy) hi hd fun H1 locs1 hP1 hD1 hS1 => ?_
  refine W_size fun hz1 => ?_
  have e1 : va_up (fun i => (f i).map (ad D)) i.toNatClampNeg (some (ad D y)) = fun j => (va_up f i.toNatClampNeg (some y) j).map (ad D) := by
    funext j
    unfold va_up
    split <;> rfl
  rw [e1] at hP1 hD1
  exact kk p e R s m args below meth c H1 locs1 c0 slots mcT msT lsA F (hH.set (c := .inl (t, n, .inr (.inr (.inr (.inr (va_up f i.toNatClampNeg (some y))))))) ha hal hP1 hD1 (by omega)) hS1 hL (by omega) h2 h3 h4
/-- System.arraycopy's words -/
def CY (own : String) (idx : Nat) : Prop := Cond.methodLink own idx arraycopyName ∈ tG ∧ Cond.native arraycopyName ∈ tG ∧ Cond.static arraycopyName ∈ tG ∧ Cond.initialized "java/lang/System" ∈ tG
theorem nfw : nativeFrameWords "java/lang/System" "arraycopy" 5 = 7 := by decide +kernel
theorem sum_cv (D : En) (st : List Value) : ((st.map (cv D)).map fun v => v.category).sum = (st.map fun v => v.category).sum := by
  rw [List.map_map]
  congr 1
  apply List.map_congr_left
  intro v _
  exact cv_cat D v
theorem e_copyi {D : En} {d : Nat} {M : Mt} {pc : Nat} {ls : List (Option Value)} {st : List Value} {h : AH} {nc ns : Nat} {post : Option Value → AH → Prop} {idx a b n0 n1 : Nat} {f g : Nat → Int32} {sp dp n : Int32} (hd : decode M.2.1 pc = .ok (.invokestatic idx, 3)) (hy : CY M.1.cls idx) (hdd : 0 < d) (hw : (st.map fun v => v.category).sum ≤ 8) (hc0 : h[a]? = some (.inl (0, n0, .inl f))) (hc1 : h[b]? = some (.inl (0, n1, .inl g))) (q1 : ¬ sp < 0) (q2 : ¬ dp < 0) (q3 : ¬ n < 0) (q4 : sp.toNatClampNeg + n.toNatClampNeg ≤ n0) (q5 : dp.toNatClampNeg + n.toNatClampNeg ≤ n1) (kk : Ev D d M (pc + 3) ls st (h.set b (.inl (0, n1, .inl (va_cpy f g sp.toNatClampNeg dp.toNatClampNeg n.toNatClampNeg)))) nc ns post) : Ev D d M pc ls (.int n :: .int dp :: .ref b :: .int sp :: .ref a :: st) h nc ns post := by
  intro p e R s m args below meth c H locs cells slots mcT msT lsA F hH hS hL h1 h2 h3 h4
  obtain ⟨g1, g2, g3, g4, g5, g6, g7, g8, g9, g10, g11, g12⟩ := id F
  have ha := hH.hiI g9 hc0
  have hb := hH.hiI g9 hc1
  have hal : b < h.length := (List.getElem?_eq_some_iff.mp hc1).1
  obtain ⟨y1, y2, y3, y4⟩ := hy
  refine W_tight fun c0 hc0' hz0 => ?_
  refine va_copyi g1 g2 (g3.trans hL.1.symm) g7 (g8 _ y1) (g8 _ y2) (g8 _ y3) (g8 _ y4) g10 hH.1 hH.2.1 hS (a - nX) (b - nX) 0 0 (ty := .int) (wsO_at hc0 ha) (wsO_at hc1 hb) rfl rfl rfl q1 q2 q3 q4 q5 (fun i hi => rfl) (by omega) (by rw [sum_cv, nfw]; omega) hd fun H1 locs1 hP1 hD1 hS1 => ?_
  refine W_size fun hz1 => ?_
  exact kk p e R s m args below meth c H1 locs1 c0 slots mcT msT lsA F (hH.set (c := .inl (0, n1, .inl (va_cpy f g sp.toNatClampNeg dp.toNatClampNeg n.toNatClampNeg))) hb hal hP1 hD1 (by omega)) hS1 hL (by omega) h2 h3 h4
theorem e_copyq {D : En} {d : Nat} {M : Mt} {pc : Nat} {ls : List (Option Value)} {st : List Value} {h : AH} {nc ns : Nat} {post : Option Value → AH → Prop} {idx a b t n0 n1 : Nat} {f g : Nat → Option Nat} {sp dp n : Int32} (hd : decode M.2.1 pc = .ok (.invokestatic idx, 3)) (hy : CY M.1.cls idx) (hdd : 0 < d) (hw : (st.map fun v => v.category).sum ≤ 8) (ht : t = 1 ∨ t = 2 ∨ t = 3 ∨ t = 4) (hc0 : h[a]? = some (.inl (t, n0, .inr (.inr (.inr (.inr f)))))) (hc1 : h[b]? = some (.inl (t, n1, .inr (.inr (.inr (.inr g)))))) (q1 : ¬ sp < 0) (q2 : ¬ dp < 0) (q3 : ¬ n < 0) (q4 : sp.toNatClampNeg + n.toNatClampNeg ≤ n0) (q5 : dp.toNatClampNeg + n.toNatClampNeg ≤ n1) (hel : ∀ i, i < n.toNatClampNeg → ∀ y, f (sp.toNatClampNeg + i) = some y → ASh h t y) (kk : Ev D d M (pc + 3) ls st (h.set b (.inl (t, n1, .inr (.inr (.inr (.inr (va_cpy f g sp.toNatClampNeg dp.toNatClampNeg n.toNatClampNeg))))))) nc ns post) : Ev D d M pc ls (.int n :: .int dp :: .ref b :: .int sp :: .ref a :: st) h nc ns post := by
  intro p e R s m args below meth c H locs cells slots mcT msT lsA F hH hS hL h1 h2 h3 h4
  obtain ⟨g1, g2, g3, g4, g5, g6, g7, g8, g9, g10, g11, g12⟩ := id F
  have ha := hH.hiQ g9 hc0 (by omega)
  have hb := hH.hiQ g9 hc1 (by omega)
  have hal : b < h.length := (List.getElem?_eq_some_iff.mp hc1).1
  obtain ⟨y1, y2, y3, y4⟩ := hy
  refine W_tight fun c0 hc0' hz0 => ?_
  refine va_copyM g1 g2 (g3.trans hL.1.symm) g7 (g8 _ y1) (g8 _ y2) (g8 _ y3) (g8 _ y4) g10 hH.1 hH.2.1 hS (a - nX) (b - nX) t t (wsO_at hc0 ha) (wsO_at hc1 hb) (eT_at D ht) (eT_at D ht) q1 q2 q3 q4 q5 (fun i hi z hz => ?_) (by omega) (by rw [sum_cv, nfw]; omega) hd fun H1 locs1 hP1 hD1 hS1 => ?_
  · cases hy : f (sp.toNatClampNeg + i) with
    | none => rw [hy] at hz; cases hz
    | some y =>
      rw [hy] at hz
      cases hz
      exact AS_any g9 g10 hH hS (hel i hi y hy)
  · refine W_size fun hz1 => ?_
    have e1 : va_cpy (fun i => (f i).map (ad D)) (fun i => (g i).map (ad D)) sp.toNatClampNeg dp.toNatClampNeg n.toNatClampNeg = fun j => (va_cpy f g sp.toNatClampNeg dp.toNatClampNeg n.toNatClampNeg j).map (ad D) := by
      funext j
      unfold va_cpy
      split <;> rfl
    rw [e1] at hP1 hD1
    exact kk p e R s m args below meth c H1 locs1 c0 slots mcT msT lsA F (hH.set (c := .inl (t, n1, .inr (.inr (.inr (.inr (va_cpy f g sp.toNatClampNeg dp.toNatClampNeg n.toNatClampNeg)))))) hb hal hP1 hD1 (by omega)) hS1 hL (by omega) h2 h3 h4
/-- Object's own constructor -/
def OI (own : String) (idx : Nat) : Prop := Cond.methodLink own idx Lib.objectInit ∈ tG ∧ Cond.instanceMethod Lib.objectInit ∈ tG ∧ Cond.code Lib.objectInit ⟨#[0xb1]⟩ 1 none ∈ tG
theorem e_objInit {D : En} {d : Nat} {M : Mt} {pc : Nat} {ls : List (Option Value)} {st : List Value} {h : AH} {nc ns : Nat} {post : Option Value → AH → Prop} {idx a : Nat} (hd : decode M.2.1 pc = .ok (.invokespecial idx, 3)) (hy : OI M.1.cls idx) (hdd : 0 < d) (hw : (st.map fun v => v.category).sum ≤ 8) (kk : Ev D d M (pc + 3) ls st h nc ns post) : Ev D d M pc ls (.ref a :: st) h nc ns post := by
  intro p e R s m args below meth c H locs cells slots mcT msT lsA F hH hS hL h1 h2 h3 h4
  obtain ⟨g1, g2, g3, g4, g5, g6, g7, g8, g9, g10, g11, g12⟩ := id F
  obtain ⟨y1, y2, y3⟩ := hy
  exact W.objInit g1 g2 g7 (g8 _ y1) (g8 _ y2) (g8 _ y3) rfl (hL.1.trans g3.symm) rfl hd (by omega) (by show 2 * 0 + _ + 12 ≤ _; rw [sum_cv]; omega) (kk p e R s m args below meth c H locs cells slots mcT msT lsA F hH hS hL h1 h2 h3 h4)
