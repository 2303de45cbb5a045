/-! HEAP: fields, rows, new cells -/
/-- the count of cells may be taken as it is -/
theorem W_tight {p : Program} {l : Launch} {e : Env} {R : Room} {s : State} {m : MethodId} {args : Array Value} {below : List Frame} {meth : Method} {c : Code} {H : Heap} {locs : List Loc} {cells slots : Nat} {Q : State → Prop} {g : JFrame} (k : ∀ c0, c0 ≤ cells → s.heap.size + c0 = H.size → W p l e R s m args below meth c H locs c0 slots Q g) : W p l e R s m args below meth c H locs cells slots Q g := by
  intro T hT X
  have hz : s.heap.size ≤ T.heap.size := X.same.2.1
  have hz2 : T.heap.size ≤ s.heap.size + cells := X.heapSize
  rw [hT] at hz hz2
  refine k (H.size - s.heap.size) (by omega) (by omega) T hT { X with same := ⟨X.same.1, X.same.2.1, ?_, X.same.2.2.2.1, X.same.2.2.2.2.1, X.same.2.2.2.2.2⟩ }
  show T.heap.size ≤ _
  rw [hT]; omega
theorem W_size {p : Program} {l : Launch} {e : Env} {R : Room} {s : State} {m : MethodId} {args : Array Value} {below : List Frame} {meth : Method} {c : Code} {H : Heap} {locs : List Loc} {cells slots : Nat} {Q : State → Prop} {g : JFrame} (k : H.size ≤ s.heap.size + cells → W p l e R s m args below meth c H locs cells slots Q g) : W p l e R s m args below meth c H locs cells slots Q g := by
  intro T hT X
  exact k (by have := X.heapSize; rw [hT] at this; exact this) T hT X
/-- a cell of the made ones -/
theorem HR.hiO {D : En} {h : AH} {H : Heap} {s : State} (hh : HR D h H) (hx : XF D s) {a ci : Nat} {fs : List Value} (hc : h[a]? = some (.inr (ci, fs))) (hci : ci ≠ 13) : nX ≤ a := by
  rcases Nat.lt_or_ge a nX with q | q
  · exfalso
    have h1 := hx.1 a q
    unfold XA at h1
    rw [hh.lo q, hc] at h1
    exact hci h1.1
  · exact q
theorem HR.hiI {D : En} {h : AH} {H : Heap} {s : State} (hh : HR D h H) (hx : XF D s) {a n : Nat} {f : Nat → Int32} (hc : h[a]? = some (.inl (0, n, .inl f))) : nX ≤ a := by
  rcases Nat.lt_or_ge a nX with q | q
  · exfalso
    have h1 := hx.1 a q
    unfold XA at h1
    rw [hh.lo q, hc] at h1
    rcases h1.1 with z | z <;> cases z
  · exact q
theorem HR.hiQ {D : En} {h : AH} {H : Heap} {s : State} (hh : HR D h H) (hx : XF D s) {a t n : Nat} {f : Nat → Option Nat} (hc : h[a]? = some (.inl (t, n, .inr (.inr (.inr (.inr f)))))) (ht : t ≠ 7) : nX ≤ a := by
  rcases Nat.lt_or_ge a nX with q | q
  · exfalso
    have h1 := hx.1 a q
    unfold XA at h1
    rw [hh.lo q, hc] at h1
    exact ht h1
  · exact q
/-- a field's link: own class, pool entry, class number of the object, field's number -/
def FL (own : String) (idx ci k : Nat) : Prop := ∃ (C : String) (T : u_T) (N : Nat) (ref : String), vwCl[ci]? = some (C, T, N) ∧ (∀ w ∈ u_ws C T N, w ∈ tG) ∧ k < N ∧ Cond.fieldLink own idx ref (T k).2.1 (T k).2.2.1 ∈ tG ∧ (ref = (T k).1 ∨ Cond.sameField ref (T k).1 (T k).2.1 (T k).2.2.1 ∈ tG)
theorem FL_same {args : Array Value} {s : State} {ref o n d : String} (hts : ∀ w ∈ tG, w.before args s = true) (h : ref = o ∨ Cond.sameField ref o n d ∈ tG) : ∀ x, s.fieldFound? o n d = some x → s.fieldFound? ref n d = some x := by
  intro x hx
  rcases h with h | h
  · subst h; exact hx
  · exact u_same (hts _ h) x hx
theorem vw13 {ci : Nat} {q : vw_C} (h : vwCl[ci]? = some q) : ci ≠ 13 := by
  intro e; subst e; simp [vwCl] at h
theorem e_get {D : En} {d : Nat} {M : Mt} {pc : Nat} {ls : List (Option Value)} {st : List Value} {h : AH} {nc ns : Nat} {post : Option Value → AH → Prop} {idx a ci k : Nat} {fs : List Value} {v : Value} (hd : decode M.2.1 pc = .ok (.getfield idx, 3)) (hf : FL M.1.cls idx ci k) (hc : h[a]? = some (.inr (ci, fs))) (hv : fs[k]? = some v) (kk : Ev D d M (pc + 3) ls (v :: st) h nc ns post) : Ev D d M pc ls (.ref a :: st) h nc ns post := by
  intro p e R s m args below meth c H locs cells slots mcT msT lsA F hH hS hL h1 h2 h3 h4
  obtain ⟨C, T, N, ref, f1, f2, f3, f4, f5⟩ := hf
  obtain ⟨g1, g2, g3, g4, g5, g6, g7, g8, g9, g10, -⟩ := id F
  have ha := hH.hiO g9 hc (vw13 f1)
  exact va_get (Ts := tG) g1 g2 g8 f2 g7 g10 hH.1 (a - nX) (wsO_at hc ha) f1 k f3 (g8 _ f4) (FL_same g8 f5) (v := cv D v) (by rw [List.getElem?_map, hv]; rfl) hd (kk p e R s m args below meth c H locs cells slots mcT msT lsA F hH hS hL h1 h2 h3 h4)
/-- what a class's fields must keep when written -/
def FT (ci : Nat) (ty0 : Nat → FieldType) : Prop := ∃ (C : String) (T : u_T) (N : Nat), vwCl[ci]? = some (C, T, N) ∧ (∀ k, k < N → parseFieldDescriptor (T k).2.2.1 = some (ty0 k)) ∧ (∀ a, a < N → ∀ b, b < N → a ≠ b → (T a).2.1 ≠ (T b).2.1)
theorem cv_fits {D : En} {ty : FieldType} {v : Value} (h : fits ty v = true) : fits ty (cv D v) = true := by
  cases v <;> first | exact h | (cases ty <;> first | exact h | simp_all [fits, cv])
theorem cv_narrow {D : En} {ty : FieldType} {v : Value} (h : narrow ty v = v) : narrow ty (cv D v) = cv D v := by
  cases v <;> first | exact h | (cases ty <;> first | rfl | simp_all [narrow, cv])
theorem e_put {D : En} {d : Nat} {M : Mt} {pc : Nat} {ls : List (Option Value)} {st : List Value} {h : AH} {nc ns : Nat} {post : Option Value → AH → Prop} {idx a ci k : Nat} {fs : List Value} {v : Value} (hd : decode M.2.1 pc = .ok (.putfield idx, 3)) (hf : FL M.1.cls idx ci k) {ty0 : Nat → FieldType} (hft : FT ci ty0) (hfin : ∀ q, vwCl[ci]? = some q → (q.2.1 k).2.2.2 = false ∨ ((q.2.1 k).2.2.2 = true ∧ M.1.name = "<init>" ∧ (q.2.1 k).1 = M.1.cls)) (hc : h[a]? = some (.inr (ci, fs))) (hk : k < fs.length) (hn : narrow (ty0 k) v = v) (hfit : fits (ty0 k) v = true) (kk : Ev D d M (pc + 3) ls st (h.set a (.inr (ci, fs.set k v))) nc ns post) : Ev D d M pc ls (v :: .ref a :: st) h nc ns post := by
  intro p e R s m args below meth c H locs cells slots mcT msT lsA F hH hS hL h1 h2 h3 h4
  obtain ⟨C, T, N, ref, f1, f2, f3, f4, f5⟩ := hf
  obtain ⟨C', T', N', t1, t2, t3⟩ := hft
  obtain ⟨g1, g2, g3, g4, g5, g6, g7, g8, g9, g10, -⟩ := id F
  cases f1.symm.trans t1
  have ha := hH.hiO g9 hc (vw13 f1)
  have hal : a < h.length := (List.getElem?_eq_some_iff.mp hc).1
  refine W_tight fun c0 hc0 hz0 => ?_
  have hl : k < (fs.map (cv D)).length := by rw [List.length_map]; exact hk
  have tail : ∀ (H1 : Heap) (locs1 : List Loc), va_P (eG D) vwCl ((wsO D h).set (a - nX) (ad D a, .inr (ci, (fs.map (cv D)).set k (cv D v)))) H1 → va_D (eQ D) ((wsO D h).set (a - nX) (ad D a, .inr (ci, (fs.map (cv D)).set k (cv D v)))) → va_S (eQ D) s.heap H1 locs1 → W p (eL D) e R s m args below meth c H1 locs1 c0 slots (MQ below (Qc D post) args s mcT msT (eQ D)) (F0 m (pc + 3) lsA (st.map (cv D))) := by
    intro H1 locs1 hP1 hD1 hS1
    refine W_size fun hz1 => ?_
    rw [← List.map_set] at hP1 hD1
    exact kk p e R s m args below meth c H1 locs1 c0 slots mcT msT lsA F (hH.set (c := .inr (ci, fs.set k v)) ha hal hP1 hD1 (by omega)) hS1 hL (by omega) h2 h3 h4
  rcases hfin _ f1 with q | ⟨q1, q2, q3⟩
  · exact va_put (Ts := tG) g1 g2 g8 f2 ty0 t2 t3 g7 g10 hH.1 hH.2.1 hS (a - nX) (wsO_at hc ha) f1 k f3 (g8 _ f4) (FL_same g8 f5) q (t2 k f3) (cv_narrow hn) (cv_fits hfit) hl hd tail
  · exact va_putF (Ts := tG) g1 g2 g8 f2 ty0 t2 t3 g7 g10 hH.1 hH.2.1 hS (a - nX) (wsO_at hc ha) f1 k f3 (g8 _ f4) (FL_same g8 f5) q1 (g6.trans q2) q3 (t2 k f3) (cv_narrow hn) (cv_fits hfit) hl hd tail
theorem e_iaload {D : En} {d : Nat} {M : Mt} {pc : Nat} {ls : List (Option Value)} {st : List Value} {h : AH} {nc ns : Nat} {post : Option Value → AH → Prop} {a n : Nat} {f : Nat → Int32} {i : Int32} (hd : decode M.2.1 pc = .ok (.iaload, 1)) (hc : h[a]? = some (.inl (0, n, .inl f))) (hi : vp_in i n) (kk : Ev D d M (pc + 1) ls (.int (f i.toNatClampNeg) :: st) h nc ns post) : Ev D d M pc ls (.int i :: .ref a :: st) h nc ns post := by
  intro p e R s m args below meth c H locs cells slots mcT msT lsA F hH hS hL h1 h2 h3 h4
  obtain ⟨g1, g2, g3, g4, g5, g6, g7, g8, g9, g10, -⟩ := id F
  have ha := hH.hiI g9 hc
  exact va_iald g1 g2 g10 hH.1 (a - nX) 0 (wsO_at hc ha) rfl hi hd (kk p e R s m args below meth c H locs cells slots mcT msT lsA F hH hS hL h1 h2 h3 h4)
/-- an outer row of ints (6) or bytes (5) -/
theorem e_ialoadX {D : En} {d : Nat} {M : Mt} {pc : Nat} {ls : List (Option Value)} {st : List Value} {h : AH} {nc ns : Nat} {post : Option Value → AH → Prop} {a n : Nat} {f : Nat → Int32} {i : Int32} (hd : decode M.2.1 pc = .ok (.iaload, 1)) (hc : h[a]? = some (.inl (6, n, .inl f))) (ha : a < nX) (hi : vp_in i n) (kk : Ev D d M (pc + 1) ls (.int (f i.toNatClampNeg) :: st) h nc ns post) : Ev D d M pc ls (.int i :: .ref a :: st) h nc ns post := by
  intro p e R s m args below meth c H locs cells slots mcT msT lsA F hH hS hL h1 h2 h3 h4
  obtain ⟨g1, g2, g3, g4, g5, g6, g7, g8, g9, g10, -⟩ := id F
  have hA := g9.1 a ha
  unfold XA at hA
  rw [hH.lo ha, hc] at hA
  refine W.eq (g2 := F0 m pc lsA (.int i :: .ref (eX D a) :: st.map (cv D))) (by show F0 m pc lsA (.int i :: .ref (ad D a) :: st.map (cv D)) = _; rw [ad_lo D ha]) ?_
  exact va_ti g1 g2 hA.2 hS hi rfl hd (kk p e R s m args below meth c H locs cells slots mcT msT lsA F hH hS hL h1 h2 h3 h4)
theorem e_baloadX {D : En} {d : Nat} {M : Mt} {pc : Nat} {ls : List (Option Value)} {st : List Value} {h : AH} {nc ns : Nat} {post : Option Value → AH → Prop} {a n : Nat} {f : Nat → Int32} {i : Int32} (hd : decode M.2.1 pc = .ok (.baload, 1)) (hc : h[a]? = some (.inl (5, n, .inl f))) (ha : a < nX) (hi : vp_in i n) (kk : Ev D d M (pc + 1) ls (.int (f i.toNatClampNeg) :: st) h nc ns post) : Ev D d M pc ls (.int i :: .ref a :: st) h nc ns post := by
  intro p e R s m args below meth c H locs cells slots mcT msT lsA F hH hS hL h1 h2 h3 h4
  obtain ⟨g1, g2, g3, g4, g5, g6, g7, g8, g9, g10, -⟩ := id F
  have hA := g9.1 a ha
  unfold XA at hA
  rw [hH.lo ha, hc] at hA
  refine W.eq (g2 := F0 m pc lsA (.int i :: .ref (eX D a) :: st.map (cv D))) (by show F0 m pc lsA (.int i :: .ref (ad D a) :: st.map (cv D)) = _; rw [ad_lo D ha]) ?_
  exact va_tb g1 g2 hA.2 hS hi rfl hd (kk p e R s m args below meth c H locs cells slots mcT msT lsA F hH hS hL h1 h2 h3 h4)
theorem e_alenX {D : En} {d : Nat} {M : Mt} {pc : Nat} {ls : List (Option Value)} {st : List Value} {h : AH} {nc ns : Nat} {post : Option Value → AH → Prop} {a t n : Nat} {f : Nat → Int32} (hd : decode M.2.1 pc = .ok (.arraylength, 1)) (hc : h[a]? = some (.inl (t, n, .inl f))) (ha : a < nX) (kk : Ev D d M (pc + 1) ls (.int (Int32.ofNat n) :: st) h nc ns post) : Ev D d M pc ls (.ref a :: st) h nc ns post := by
  intro p e R s m args below meth c H locs cells slots mcT msT lsA F hH hS hL h1 h2 h3 h4
  obtain ⟨g1, g2, g3, g4, g5, g6, g7, g8, g9, g10, -⟩ := id F
  have hA := g9.1 a ha
  unfold XA at hA
  rw [hH.lo ha, hc] at hA
  refine W.eq (g2 := F0 m pc lsA (.ref (eX D a) :: st.map (cv D))) (by show F0 m pc lsA (.ref (ad D a) :: st.map (cv D)) = _; rw [ad_lo D ha]) ?_
  exact va_tlen g1 g2 hA.2 hS rfl hd (kk p e R s m args below meth c H locs cells slots mcT msT lsA F hH hS hL h1 h2 h3 h4)
theorem e_iastore {D : En} {d : Nat} {M : Mt} {pc : Nat} {ls : List (Option Value)} {st : List Value} {h : AH} {nc ns : Nat} {post : Option Value → AH → Prop} {a n : Nat} {f : Nat → Int32} {i x : Int32} (hd : decode M.2.1 pc = .ok (.iastore, 1)) (hc : h[a]? = some (.inl (0, n, .inl f))) (hi : vp_in i n) (kk : Ev D d M (pc + 1) ls st (h.set a (.inl (0, n, .inl (upd f i.toNatClampNeg x)))) nc ns post) : Ev D d M pc ls (.int x :: .int i :: .ref a :: st) h nc ns post := by
  intro p e R s m args below meth c H locs cells slots mcT msT lsA F hH hS hL h1 h2 h3 h4
  obtain ⟨g1, g2, g3, g4, g5, g6, g7, g8, g9, g10, -⟩ := id F
  have ha := hH.hiI g9 hc
  have hal : a < h.length := (List.getElem?_eq_some_iff.mp hc).1
  refine W_tight fun c0 hc0 hz0 => ?_
  refine va_iast g1 g2 g10 hH.1 hH.2.1 hS (a - nX) 0 (wsO_at hc ha) rfl hi hd fun H1 locs1 hP1 hD1 hS1 => ?_
  refine W_size fun hz1 => ?_
  exact kk p e R s m args below meth c H1 locs1 c0 slots mcT msT lsA F (hH.set (c := .inl (0, n, .inl (upd f i.toNatClampNeg x))) ha hal hP1 hD1 (by omega)) hS1 hL (by omega) h2 h3 h4
/-- a reference or null -/
def orf : Option Nat → Value
  | none => .null
  | some a => .ref a
theorem cv_orf (D : En) (o : Option Nat) : cv D (orf o) = va_rf (o.map (ad D)) := by cases o <;> rfl
theorem e_aaload {D : En} {d : Nat} {M : Mt} {pc : Nat} {ls : List (Option Value)} {st : List Value} {h : AH} {nc ns : Nat} {post : Option Value → AH → Prop} {a t n : Nat} {f : Nat → Option Nat} {i : Int32} (hd : decode M.2.1 pc = .ok (.aaload, 1)) (hc : h[a]? = some (.inl (t, n, .inr (.inr (.inr (.inr f)))))) (ht : t = 1 ∨ t = 2 ∨ t = 3 ∨ t = 4) (hi : vp_in i n) (kk : Ev D d M (pc + 1) ls (orf (f i.toNatClampNeg) :: st) h nc ns post) : Ev D d M pc ls (.int i :: .ref a :: st) h nc ns post := by
  intro p e R s m args below meth c H locs cells slots mcT msT lsA F hH hS hL h1 h2 h3 h4
  obtain ⟨g1, g2, g3, g4, g5, g6, g7, g8, g9, g10, -⟩ := id F
  have ha := hH.hiQ g9 hc (by omega)
  have k2 : W p (eL D) e R s m args below meth c H locs cells slots (MQ below (Qc D post) args s mcT msT (eQ D)) (F0 m (pc + 1) lsA (va_rf ((f i.toNatClampNeg).map (ad D)) :: st.map (cv D))) := by
    have := kk p e R s m args below meth c H locs cells slots mcT msT lsA F hH hS hL h1 h2 h3 h4
    rw [List.map_cons, cv_orf] at this
    exact this
  have hw := wsO_at (D := D) hc ha
  rcases ht with rfl | rfl | rfl | rfl
  · exact va_aldq g1 g2 g10 hH.1 (a - nX) 1 hw rfl hi hd k2
  · exact va_aldq g1 g2 g10 hH.1 (a - nX) 2 hw rfl hi hd k2
  · exact va_aldq g1 g2 g10 hH.1 (a - nX) 3 hw rfl hi hd k2
  · exact va_aldq g1 g2 g10 hH.1 (a - nX) 4 hw rfl hi hd k2
theorem e_alen {D : En} {d : Nat} {M : Mt} {pc : Nat} {ls : List (Option Value)} {st : List Value} {h : AH} {nc ns : Nat} {post : Option Value → AH → Prop} {a n : Nat} {f : Nat → Int32} (hd : decode M.2.1 pc = .ok (.arraylength, 1)) (hc : h[a]? = some (.inl (0, n, .inl f))) (kk : Ev D d M (pc + 1) ls (.int (Int32.ofNat n) :: st) h nc ns post) : Ev D d M pc ls (.ref a :: st) h nc ns post := by
  intro p e R s m args below meth c H locs cells slots mcT msT lsA F hH hS hL h1 h2 h3 h4
  obtain ⟨g1, g2, g3, g4, g5, g6, g7, g8, g9, g10, -⟩ := id F
  have ha := hH.hiI g9 hc
  exact va_alen g1 g2 g10 hH.1 (a - nX) 0 (wsO_at hc ha) (ty := .int) rfl rfl hd (kk p e R s m args below meth c H locs cells slots mcT msT lsA F hH hS hL h1 h2 h3 h4)
theorem e_alenQ {D : En} {d : Nat} {M : Mt} {pc : Nat} {ls : List (Option Value)} {st : List Value} {h : AH} {nc ns : Nat} {post : Option Value → AH → Prop} {a t n : Nat} {f : Nat → Option Nat} (hd : decode M.2.1 pc = .ok (.arraylength, 1)) (hc : h[a]? = some (.inl (t, n, .inr (.inr (.inr (.inr f)))))) (ht : t = 1 ∨ t = 2 ∨ t = 3 ∨ t = 4) (kk : Ev D d M (pc + 1) ls (.int (Int32.ofNat n) :: st) h nc ns post) : Ev D d M pc ls (.ref a :: st) h nc ns post := by
  intro p e R s m args below meth c H locs cells slots mcT msT lsA F hH hS hL h1 h2 h3 h4
  obtain ⟨g1, g2, g3, g4, g5, g6, g7, g8, g9, g10, -⟩ := id F
  have ha := hH.hiQ g9 hc (by omega)
  have k2 := kk p e R s m args below meth c H locs cells slots mcT msT lsA F hH hS hL h1 h2 h3 h4
  have hw := wsO_at (D := D) hc ha
  rcases ht with rfl | rfl | rfl | rfl
  · exact va_alen g1 g2 g10 hH.1 (a - nX) 1 hw (ty := .object "EmptyLand$Thing") rfl rfl hd k2
  · exact va_alen g1 g2 g10 hH.1 (a - nX) 2 hw (ty := .object "EmptyLand$Rule") rfl rfl hd k2
  · exact va_alen g1 g2 g10 hH.1 (a - nX) 3 hw (ty := .object "EmptyLand$Row") rfl rfl hd k2
  · exact va_alen g1 g2 g10 hH.1 (a - nX) 4 hw (ty := .object "java/lang/String") rfl rfl hd k2
