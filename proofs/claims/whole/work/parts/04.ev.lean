/-! THE ABSTRACT MACHINE: a method's run over a list of cells; Ev says: from here the machine comes to an end with 'post'.
Cells 0..10 are the outer ones (the script, the three static rows, the three texts and their bytes, the formatter); cell nX + k is the k-th one made. -/
def nX : Nat := 11
abbrev AC : Type := (Nat × vp_A) ⊕ (Nat × List Value)
abbrev AH : Type := List AC
abbrev En : Type := Launch × va_G × (Nat → ClassId) × Nat × (Nat → Nat) × AH
abbrev Mt : Type := MethodName × ByteArray × Nat × Option FieldType
def eL (D : En) : Launch := D.1
def eG (D : En) : va_G := D.2.1
def eC (D : En) : Nat → ClassId := D.2.2.1
def eB (D : En) : Nat := D.2.2.2.1
def eX (D : En) : Nat → Nat := D.2.2.2.2.1
def eH (D : En) : AH := D.2.2.2.2.2
def eQ (D : En) : Nat → Prop := fun q => eB D ≤ q
def eT (D : En) : List (ClassId × FieldType) := [(eC D 0, .int), (eC D 1, .object "EmptyLand$Thing"), (eC D 2, .object "EmptyLand$Rule"), (eC D 3, .object "EmptyLand$Row"), (eC D 4, .object "java/lang/String")]
def ad (D : En) (a : Nat) : Nat := if a < nX then eX D a else eB D + (a - nX)
def cv (D : En) : Value → Value
  | .ref a => .ref (ad D a)
  | v => v
def ca (D : En) (a : vp_A) : vp_A := match a with
  | (n, .inr (.inr (.inr (.inr f)))) => (n, .inr (.inr (.inr (.inr (fun i => (f i).map (ad D))))))
  | a => a
def cE (D : En) : AC → va_E
  | .inl q => .inl (eC D q.1, ca D q.2)
  | .inr q => .inr (q.1, q.2.map (cv D))
def wsO (D : En) (h : AH) : va_W := ((h.drop nX).zipIdx).map (fun q => (eB D + q.2, cE D q.1))
theorem cv_cat (D : En) (v : Value) : (cv D v).category = v.category := by cases v <;> rfl
theorem wsO_get (D : En) (h : AH) (i : Nat) : (wsO D h)[i]? = (h[nX + i]?).map (fun c => (eB D + i, cE D c)) := by
  simp only [wsO, List.getElem?_map, List.getElem?_zipIdx, List.getElem?_drop]
  cases h[nX + i]? <;> simp
theorem ad_hi (D : En) {a : Nat} (h : nX ≤ a) : ad D a = eB D + (a - nX) := by
  unfold ad; rw [if_neg (by omega)]
theorem ad_lo (D : En) {a : Nat} (h : a < nX) : ad D a = eX D a := by
  unfold ad; rw [if_pos h]
theorem wsO_at {D : En} {h : AH} {a : Nat} {c : AC} (h1 : h[a]? = some c) (h2 : nX ≤ a) : (wsO D h)[a - nX]? = some (ad D a, cE D c) := by
  rw [wsO_get, show nX + (a - nX) = a by omega, h1, ad_hi D h2]; rfl
theorem wsO_set (D : En) (h : AH) {a : Nat} (c : AC) (h2 : nX ≤ a) (h3 : a < h.length) : (wsO D h).set (a - nX) (ad D a, cE D c) = wsO D (h.set a c) := by
  apply List.ext_getElem?
  intro i
  rw [wsO_get, List.getElem?_set, List.getElem?_set, wsO_get]
  by_cases hi : a - nX = i
  · subst hi
    have hl : (a - nX) < (wsO D h).length := by simp [wsO]; omega
    rw [show nX + (a - nX) = a by omega, ad_hi D h2]
    simp [hl, h3]
  · have h4 : ¬ a = nX + i := by omega
    rw [if_neg hi, if_neg h4]
theorem wsO_push (D : En) (h : AH) (c : AC) (h2 : nX ≤ h.length) : wsO D (h ++ [c]) = wsO D h ++ [(eB D + (h.length - nX), cE D c)] := by
  unfold wsO
  rw [List.drop_append_of_le_length h2, List.zipIdx_append, List.map_append]
  simp
theorem wsO_len (D : En) (h : AH) : (wsO D h).length = h.length - nX := by simp [wsO]
/-- the heap is the abstract one -/
def HR (D : En) (h : AH) (H : Heap) : Prop := va_P (eG D) vwCl (wsO D h) H ∧ va_D (eQ D) (wsO D h) ∧ H.size = eB D + (h.length - nX) ∧ nX ≤ h.length ∧ h.take nX = eH D
theorem HR.lo {D : En} {h : AH} {H : Heap} (hh : HR D h H) {a : Nat} (ha : a < nX) : (eH D)[a]? = h[a]? := by
  rw [← hh.2.2.2.2, List.getElem?_take, if_pos ha]
theorem HR.set {D : En} {h : AH} {H H1 : Heap} (hh : HR D h H) {a : Nat} {c : AC} (h2 : nX ≤ a) (h3 : a < h.length) (hP : va_P (eG D) vwCl ((wsO D h).set (a - nX) (ad D a, cE D c)) H1) (hD : va_D (eQ D) ((wsO D h).set (a - nX) (ad D a, cE D c))) (hz : H1.size ≤ H.size) : HR D (h.set a c) H1 := by
  rw [wsO_set D h c h2 h3] at hP hD
  refine ⟨hP, hD, ?_, by rw [List.length_set]; exact hh.2.2.2.1, ?_⟩
  · rw [List.length_set]
    have hz2 := hh.2.2.1
    have h4 := hh.2.2.2.1
    by_cases hn : h.length = nX
    · omega
    · have hl : h.length - 1 < (h.set a c).length := by rw [List.length_set]; omega
      have hg := wsO_at (D := D) (h := h.set a c) (a := h.length - 1) (List.getElem?_eq_getElem hl) (by omega)
      have := (hP _ _ hg).lt
      rw [ad_hi D (by omega)] at this
      omega
  · rw [List.take_set, ← hh.2.2.2.2, List.set_eq_of_length_le (by rw [List.length_take]; omega)]
theorem HR.push {D : En} {h : AH} {H H1 : Heap} (hh : HR D h H) {q : Nat} {c : AC} (hP : va_P (eG D) vwCl (wsO D h ++ [(q, cE D c)]) H1) (hD : va_D (eQ D) (wsO D h ++ [(q, cE D c)])) (hz : H1.size ≤ H.size + 1) : HR D (h ++ [c]) H1 ∧ q = ad D h.length := by
  have h4 := hh.2.2.2.1
  have hz2 := hh.2.2.1
  have hlen := wsO_len D h
  have hgq : (wsO D h ++ [(q, cE D c)])[(wsO D h).length]? = some (q, cE D c) := by simp
  have hq1 := (hP _ _ hgq).lt
  have hq2 : eB D ≤ q := hD.2 _ _ hgq
  have hq : q = eB D + (h.length - nX) := by
    by_cases hlt : q < eB D + (h.length - nX)
    · exfalso
      have hi : q - eB D < (wsO D h).length := by omega
      have hg : (wsO D h)[q - eB D]? = (h[nX + (q - eB D)]?).map (fun c => (eB D + (q - eB D), cE D c)) := wsO_get D h _
      have hl2 : nX + (q - eB D) < h.length := by omega
      rw [List.getElem?_eq_getElem hl2] at hg
      have hg2 : (wsO D h ++ [(q, cE D c)])[q - eB D]? = some (eB D + (q - eB D), cE D h[nX + (q - eB D)]) := by
        rw [List.getElem?_append_left hi, hg]; rfl
      have := hD.1 _ _ _ _ hg2 hgq (by show eB D + (q - eB D) = q; omega)
      omega
    · have : q < H1.size := hq1
      omega
  subst hq
  rw [← wsO_push D h c h4] at hP hD
  have hz3 : H1.size = eB D + ((h ++ [c]).length - nX) := by
    have : eB D + (h.length - nX) < H1.size := hq1
    simp; omega
  exact ⟨⟨hP, hD, hz3, by simp; omega, by rw [List.take_append_of_le_length h4]; exact hh.2.2.2.2⟩, by rw [ad_hi D h4]⟩
/-- the outer cells: what the start says of them -/
def xT (t : Nat) : FieldType := if t = 5 then .byte else .int
def XA (D : En) (s : State) (a : Nat) : Prop := match (eH D)[a]? with
  | some (.inl (t, n, .inl f)) => (t = 5 ∨ t = 6) ∧ va_T (xT t) (eX D a) n (fun j => .int (f j)) (eQ D) s s.heap
  | some (.inl q) => q.1 = 7
  | some (.inr (ci, fs)) => ci = 13 ∧ va_O "java/lang/String" (eX D a) (eQ D) s s.heap ∧ ∃ v : Nat, fs = [.ref v, .int 0] ∧ v < nX ∧ va_OF "java/lang/String" "value" "[B" (.ref (eX D v)) (eX D a) (eQ D) s s.heap ∧ va_OF "java/lang/String" "coder" "B" (.int 0) (eX D a) (eQ D) s s.heap
  | _ => True
def XC (D : En) (s : State) : Prop := ∃ (cell : Cell) (f : Nat → Int32), s.heap[eX D 3]? = some cell ∧ eX D 3 < eB D ∧ (eH D)[3]? = some (.inl (6, 6, .inl f)) ∧ cell.vm ≠ .unknown ∧ cell.vm.isStatics = false ∧ cell.cls = eC D 0 ∧ cell.slots = Array.ofFn (n := 6) (fun j => Value.int (f j.val))
def XS (D : En) (s : State) : Prop := va_Z "EmptyLand" "RATE_LEAST" "[I" (.ref (eX D 1)) (eQ D) s s.heap ∧ va_Z "EmptyLand" "RATE_MOST" "[I" (.ref (eX D 2)) (eQ D) s s.heap ∧ va_Z "EmptyLand" "RATE_FIRST" "[I" (.ref (eX D 3)) (eQ D) s s.heap ∧ va_Z "java/lang/String" "COMPACT_STRINGS" "Z" (.int 1) (eQ D) s s.heap ∧ (∃ v : Value, (v = .null ∨ v = .ref (eX D 10)) ∧ va_Z "jdk/internal/util/Preconditions" "SIOOBE_FORMATTER" "Ljava/util/function/BiFunction;" v (eQ D) s s.heap)
def XR (D : En) (s : State) : Prop := vk_R "EmptyLand$Rule" 31 "ulcy" (eX D 4) s ∧ vk_R "EmptyLand$Rule" 33 "swn" (eX D 5) s ∧ vk_R "EmptyLand$Rule" 35 "wn" (eX D 6) s ∧ vk_R "EmptyLandModel" 30 "ulcy" (eX D 4) s ∧ vk_R "EmptyLandModel" 32 "swn" (eX D 5) s ∧ vk_R "EmptyLandModel" 34 "wn" (eX D 6) s
def XO (s : State) : Prop := va_AO "EmptyLand$Thing" s ∧ va_AO "EmptyLand$Rule" s ∧ va_AO "EmptyLand$Row" s ∧ va_AO "java/lang/String" s
def castL : List (String × String) := [("EmptyLand$School", "EmptyLand$Thing"), ("EmptyLand$Shop", "EmptyLand$Thing"), ("EmptyLand$Doctor", "EmptyLand$Thing"), ("EmptyLand$Bus", "EmptyLand$Thing"), ("EmptyLand$Wheels", "EmptyLand$Thing"), ("EmptyLand$Bridge", "EmptyLand$Thing"), ("[I", "java/lang/Cloneable")]
def XK (s : State) : Prop := (∀ q ∈ castL, va_Nw (.castable q.1 q.2) s) ∧ va_Nw (.fieldLinkNest "EmptyLand$Land" 52 "EmptyLand" "RATE_FIRST" "[I" "EmptyLand") s
def XF (D : En) (s : State) : Prop := (∀ a, a < nX → XA D s a) ∧ XC D s ∧ XS D s ∧ XR D s ∧ XO s ∧ XK s ∧ eB D ≤ s.heap.size ∧ (eH D).length = nX
theorem XF.to {D : En} {s U : State} (hW : s.WarmedH U.vm) (hz : s.heap.size ≤ U.heap.size) (hk : ∀ q : Nat, q < s.heap.size → ¬ eQ D q → U.heap[q]? = s.heap[q]?) (h : XF D s) : XF D U := by
  have hvm := hW.alike
  obtain ⟨h1, h2, h3, h4, h5, h8, h6, h7⟩ := h
  refine ⟨fun a ha => ?_, ?_, ?_, ?_, ?_, ⟨fun q hq => (h8.1 q hq).warmC hW, h8.2.warmF hW⟩, by omega, h7⟩
  · have hA := h1 a ha
    unfold XA at hA ⊢
    split <;> rename_i hx <;> simp only [hx] at hA
    · exact ⟨hA.1, (va_T.moved hvm hA.2).kept hk⟩
    · exact hA
    · obtain ⟨g0, g1, v, g2, g3, g4, g5⟩ := hA
      exact ⟨g0, (va_O.moved hvm g1).kept hk, v, g2, g3, (va_OF.moved hvm g4).kept hk, (va_OF.moved hvm g5).kept hk⟩
    · trivial
  · obtain ⟨cell, f, g1, g2, g3⟩ := h2
    exact ⟨cell, f, by rw [hk _ (by omega) (by unfold eQ; omega)]; exact g1, g2, g3⟩
  · obtain ⟨g1, g2, g3, g4, v, g5, g6⟩ := h3
    exact ⟨(va_Z.moved hvm g1).kept hk, (va_Z.moved hvm g2).kept hk, (va_Z.moved hvm g3).kept hk, (va_Z.moved hvm g4).kept hk, v, g5, (va_Z.moved hvm g6).kept hk⟩
  · obtain ⟨g1, g2, g3, g4, g5, g6⟩ := h4
    exact ⟨g1.warm hW, g2.warm hW, g3.warm hW, g4.warm hW, g5.warm hW, g6.warm hW⟩
  · obtain ⟨g1, g2, g3, g4⟩ := h5
    exact ⟨g1.moved hvm, g2.moved hvm, g3.moved hvm, g4.moved hvm⟩
/-- the words that are good everywhere -/
def tG : List Cond := lw_tbl.filter goodWord
theorem tG_in {w : Cond} (i : Nat) (h : lw_tbl[i]? = some w) (g : goodWord w = true) : w ∈ tG := List.mem_filter.mpr ⟨List.mem_of_getElem? h, g⟩
theorem tG_good : ∀ w ∈ tG, (w.onTables && w.keeps) = true ∨ ∃ ty, w = .arrayClass ty := fun w h => good_of_word (List.mem_filter.mp h).2
/-- the locals -/
def Lr (D : En) (ls : List (Option Value)) (lsA : Array Slot) (nL : Nat) : Prop := lsA.size = nL ∧ lv_wf lsA ∧ ∀ (i : Nat) (v : Value), ls[i]? = some (some v) → lsA[i]? = some (.val (cv D v))
def la (D : En) (ls : List (Option Value)) : List (Nat × Value) := (ls.zipIdx).filterMap (fun q => q.1.map (fun v => (q.2, cv D v)))
theorem la_mem {D : En} {ls : List (Option Value)} {q : Nat × Value} : q ∈ la D ls ↔ ∃ v, ls[q.1]? = some (some v) ∧ q.2 = cv D v := by
  unfold la
  rw [List.mem_filterMap]
  constructor
  · rintro ⟨⟨o, i⟩, h1, h2⟩
    have h3 := List.mem_zipIdx_iff_getElem?.mp h1
    cases o with
    | none => simp at h2
    | some v =>
      simp only [Option.map_some, Option.some.injEq] at h2
      subst h2
      exact ⟨v, h3, rfl⟩
  · rintro ⟨v, h1, h2⟩
    exact ⟨(some v, q.1), List.mem_zipIdx_iff_getElem?.mpr h1, by simp [← h2]⟩
theorem Lr.has {D : En} {ls : List (Option Value)} {lsA : Array Slot} {nL : Nat} (h : Lr D ls lsA nL) : lv_has lsA nL (la D ls) := by
  refine ⟨h.1, h.2.1, fun q hq => ?_⟩
  obtain ⟨v, h1, h2⟩ := la_mem.mp hq
  rw [h2]
  exact h.2.2 _ _ h1
/-- a store of one slot: what stood there goes; a long whose second half it was goes too -/
def lset (ls : List (Option Value)) (i : Nat) (v : Value) : List (Option Value) := match i with
  | 0 => ls.set 0 (some v)
  | j + 1 => match ls[j]? with
    | some (some (.long _)) => (ls.set j none).set (j + 1) (some v)
    | some (some (.double _)) => (ls.set j none).set (j + 1) (some v)
    | _ => ls.set (j + 1) (some v)
theorem lset_get {ls : List (Option Value)} {i j : Nat} {v w : Value} (h : (lset ls i v)[j]? = some (some w)) : (j = i ∧ w = v) ∨ (ls[j]? = some (some w) ∧ j ≠ i ∧ ¬ (j + 1 = i ∧ w.category = 2)) := by
  have key : ∀ (l2 : List (Option Value)), (l2.set i (some v))[j]? = some (some w) → (j = i ∧ w = v) ∨ (l2[j]? = some (some w) ∧ j ≠ i) := by
    intro l2 h
    rw [List.getElem?_set] at h
    by_cases hi : i = j
    · subst hi
      rw [if_pos rfl] at h
      split at h
      · left; simp at h; exact ⟨rfl, h.symm⟩
      · cases h
    · rw [if_neg hi] at h
      exact Or.inr ⟨h, fun e => hi e.symm⟩
  cases i with
  | zero =>
    rcases key ls h with h1 | ⟨h1, h2⟩
    · exact Or.inl h1
    · exact Or.inr ⟨h1, h2, fun e => by omega⟩
  | succ k =>
    simp only [lset] at h
    split at h
    · rcases key _ h with h1 | ⟨h1, h2⟩
      · exact Or.inl h1
      · rw [List.getElem?_set] at h1
        split at h1
        · split at h1 <;> simp at h1
        · exact Or.inr ⟨h1, h2, fun e => by omega⟩
    · rcases key _ h with h1 | ⟨h1, h2⟩
      · exact Or.inl h1
      · rw [List.getElem?_set] at h1
        split at h1
        · split at h1 <;> simp at h1
        · exact Or.inr ⟨h1, h2, fun e => by omega⟩
    · rename_i n1 n2
      rcases key _ h with h1 | ⟨h1, h2⟩
      · exact Or.inl h1
      · refine Or.inr ⟨h1, h2, fun e => ?_⟩
        have hj : j = k := by omega
        subst hj
        cases w with
        | long x => exact n1 x h1
        | double x => exact n2 x h1
        | _ => simp [Value.category] at e
theorem Lr.store {D : En} {ls : List (Option Value)} {ls' : Array Slot} {nL i : Nat} {v : Value} (h : lv_has ls' nL ((i, cv D v) :: (la D ls).filter (fun q => !(q.1 == i) && !(q.1 + 1 == i && q.2.category == 2)))) : Lr D (lset ls i v) ls' nL := by
  refine ⟨h.1, h.2.1, fun j w hj => ?_⟩
  rcases lset_get hj with ⟨h1, h2⟩ | ⟨h1, h2, h3⟩
  · subst h1; subst h2
    exact h.2.2 _ List.mem_cons_self
  · refine h.2.2 (j, cv D w) (List.mem_cons_of_mem _ (List.mem_filter.mpr ⟨la_mem.mpr ⟨w, h1, rfl⟩, ?_⟩))
    simp only [Bool.and_eq_true, Bool.not_eq_true', beq_eq_false_iff_ne, ne_eq, Bool.and_eq_false_iff, cv_cat]
    refine ⟨h2, ?_⟩
    by_cases e : j + 1 = i
    · exact Or.inr (fun z => h3 ⟨e, z⟩)
    · exact Or.inl e
/-- the end of a method -/
def Qc (D : En) (post : Option Value → AH → Prop) : Array Value → State → Outcome → State → Prop := fun _ st oc t => ∃ (v : Option Value) (h' : AH), oc = .returned (v.map (cv D)) ∧ post v h' ∧ HR D h' t.heap ∧ va_F (eQ D) st t
/-- what holds in a method's frame -/
def Fx (D : En) (d : Nat) (M : Mt) (p : Program) (R : Room) (s : State) (m : MethodId) (args : Array Value) (meth : Method) (c : Code) : Prop :=
  p.tables.exec = Jvm.exec ∧ c.code = M.2.1 ∧ c.maxLocals = M.2.2.1 ∧ meth.sig.returnType = M.2.2.2 ∧ meth.locks = false ∧ meth.name = M.1.name ∧ s.vm.findClass M.1.cls = some m.cls ∧ (∀ w ∈ tG, w.before args s = true) ∧ XF D s ∧ va_K (eG D) vwCl (eT D) s ∧ d ≤ R.frames ∧ 60 * d ≤ R.locals
def Ev (D : En) (d : Nat) (M : Mt) (pc : Nat) (ls : List (Option Value)) (st : List Value) (h : AH) (nc ns : Nat) (post : Option Value → AH → Prop) : Prop :=
  ∀ (p : Program) (e : Env) (R : Room) (s : State) (m : MethodId) (args : Array Value) (below : List Frame) (meth : Method) (c : Code) (H : Heap) (locs : List Loc) (cells slots mcT msT : Nat) (lsA : Array Slot),
    Fx D d M p R s m args meth c → HR D h H → va_S (eQ D) s.heap H locs → Lr D ls lsA M.2.2.1 → cells + nc ≤ mcT → slots + ns ≤ msT → mcT ≤ R.cells → msT ≤ R.slots →
    W p (eL D) e R s m args below meth c H locs cells slots (MQ below (Qc D post) args s mcT msT (eQ D)) (F0 m pc lsA (st.map (cv D)))
