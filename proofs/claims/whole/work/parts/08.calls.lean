/-! CALLS -/
def lvF : List Value → List (Option Value)
  | [] => []
  | v :: vs => if v.category = 2 then some v :: none :: lvF vs else some v :: lvF vs
def lvA (args : List Value) (n : Nat) : List (Option Value) := lvF args ++ List.replicate (n - (lvF args).length) none
theorem lg_sl_cons (v : Value) (vs : List Value) : lg_sl (v :: vs) = (if v.category = 2 then [.val v, .second] else [.val v]) ++ lg_sl vs := by
  simp [lg_sl]
theorem lvF_sl (D : En) : ∀ (args : List Value), (lvF args).length = (lg_sl (args.map (cv D))).length ∧ ∀ (i : Nat) (v : Value), (lvF args)[i]? = some (some v) → (lg_sl (args.map (cv D)))[i]? = some (.val (cv D v))
  | [] => ⟨rfl, fun i v h => by simp [lvF] at h⟩
  | v :: vs => by
    obtain ⟨h1, h2⟩ := lvF_sl D vs
    rw [List.map_cons, lg_sl_cons, cv_cat]
    by_cases hc : v.category = 2
    · rw [lvF, if_pos hc, if_pos hc]
      refine ⟨by simp [h1], fun i w h => ?_⟩
      match i with
      | 0 => simp at h; subst h; rfl
      | 1 => simp at h
      | i + 2 => simp at h ⊢; exact h2 i w h
    · rw [lvF, if_neg hc, if_neg hc]
      refine ⟨by simp [h1], fun i w h => ?_⟩
      match i with
      | 0 => simp at h; subst h; rfl
      | i + 1 => simp at h ⊢; exact h2 i w h
theorem lvA_Lr (D : En) (args : List Value) (n : Nat) (hn : (lvF args).length ≤ n) : Lr D (lvA args n) ((lg_sl (args.map (cv D)) ++ List.replicate (n - (lg_sl (args.map (cv D))).length) Slot.unset).toArray) n := by
  obtain ⟨h1, h2⟩ := lvF_sl D args
  obtain ⟨e1, e2, -⟩ := lv_entry (args.map (cv D)) (n := n) (by rw [← h1]; exact hn)
  refine ⟨e1, e2, fun i v h => ?_⟩
  unfold lvA at h
  by_cases hi : i < (lvF args).length
  · rw [List.getElem?_append_left hi] at h
    rw [List.getElem?_toArray, List.getElem?_append_left (by rw [← h1]; exact hi)]
    exact h2 i v h
  · rw [List.getElem?_append_right (by omega), List.getElem?_replicate] at h
    split at h <;> simp at h
/-- a contract's start -/
def PcD (D : En) (h : AH) (args : List Value) : Array Value → State → Prop := fun v U => v = (args.map (cv D)).toArray ∧ XF D U ∧ va_K (eG D) vwCl (eT D) U ∧ HR D h U.heap
theorem PcD_blind (D : En) (h : AH) (args : List Value) : FrameBlind (PcD D h args) := by
  intro a U g mk q
  obtain ⟨q0, q1, q2, q3⟩ := q
  exact ⟨q0, XF.to (s := U) (U := U.calling g mk a) (State.WarmedH.refl U) (Nat.le_refl _) (fun _ _ _ => rfl) q1, va_K.moved (u := U) (U := U.calling g mk a) (Vm.Alike.refl U.vm) q2, q3⟩
def wsN (N : Mt) : List Cond := Cond.code N.1 N.2.1 N.2.2.1 N.2.2.2 :: tG
def rmN (d mc ms : Nat) : Room := { frames := d, cells := mc, slots := ms, locals := 60 * d }
theorem Ev_met {D : En} {d : Nat} {N : Mt} {h : AH} {args : List Value} {mc ms : Nat} {P : Option Value → AH → Prop} (hy : Jvm.plainName N.1.cls = true) (hl : (lvF args).length ≤ N.2.2.1) (hE : Ev D d N 0 (lvA args N.2.2.1) [] h mc ms P) : Met (eL D) N.1 (wsN N) (rmN d mc ms) (PcD D h args) (Qc D P) mc ms (eQ D) := by
  refine Met.ofW (cc := N.2.1) (maxL := N.2.2.1) (ret := N.2.2.2) hy rfl ?_
  intro p e s m args' below meth c s₁ B hml hv
  obtain ⟨rfl, hX, hK, hH⟩ := hv
  have hts := atoms_spec (ws := wsN N) B.pre
  rw [lg_entry_eq]
  exact hE p e (rmN d mc ms) s m _ below meth c s.heap [] 0 0 mc ms _ ⟨B.exec, B.bytes, hml, B.returns, B.notSynchronized, (name_of_methodNamed B.named B.method).1, findClass_of_methodNamed B.named, fun w hw => hts w (List.mem_cons_of_mem _ hw), hX, hK, Nat.le_refl _, Nat.le_refl _⟩ hH va_S.rf (lvA_Lr D args N.2.2.1 hl) (by omega) (by omega) (Nat.le_refl _) (Nat.le_refl _)
/-- what a callee's name must keep -/
def MO (N : Mt) (n : Nat) : Prop := Jvm.plainName N.1.cls = true ∧ (N.1.cls ≠ "java/lang/invoke/MethodHandle" ∧ N.1.cls ≠ "java/lang/invoke/VarHandle") ∧ N.2.2.1 ≤ 41 ∧ Cond.code N.1 N.2.1 N.2.2.1 N.2.2.2 ∈ tG ∧ Cond.initialized N.1.cls ∈ tG ∧ (parseMethodDescriptor N.1.desc).map (fun d => d.parameters.length) = some n
theorem goodAll {ws : List Cond} (h : ∀ w ∈ ws, w ∈ tG) : GoodIn tG ws := fun w hw => ⟨h w hw, tG_good w (h w hw)⟩
theorem wsN_in {N : Mt} {n : Nat} (h : MO N n) : ∀ w ∈ wsN N, w ∈ tG := by
  intro w hw
  rcases List.mem_cons.mp hw with rfl | hw
  · exact h.2.2.2.1
  · exact hw
/-- behind a call -/
theorem ev_tail {D : En} {d : Nat} {M : Mt} {pc : Nat} {ls : List (Option Value)} {st st0 : List Value} {nc ns mc ms : Nat} {post P : Option Value → AH → Prop} {p : Program} {e : Env} {R : Room} {s : State} {m : MethodId} {args : Array Value} {below : List Frame} {meth : Method} {c : Code} {H : Heap} {locs : List Loc} {cells slots mcT msT : Nat} {lsA : Array Slot} {av : Array Value}
    (hr : va_Run p (eL D) e R s m args below meth c H locs cells slots mc ms (F0 m pc lsA (st0.map (cv D))) (st.map (cv D)) (Qc D P av) (eQ D)) (F : Fx D d M p R s m args meth c) (hS : va_S (eQ D) s.heap H locs) (hL : Lr D ls lsA M.2.2.1) (h1 : cells + (nc + mc) ≤ mcT) (h2 : slots + (ns + ms) ≤ msT) (h3 : mcT ≤ R.cells) (h4 : msT ≤ R.slots)
    (kk : ∀ v h', P v h' → Ev D d M (pc + 3) ls (v.toList ++ st) h' nc ns post) : W p (eL D) e R s m args below meth c H locs cells slots (MQ below (Qc D post) args s mcT msT (eQ D)) (F0 m pc lsA (st0.map (cv D))) := by
  intro T hT X
  obtain ⟨v, st₀, t, T', L, h0, X', hL', e1, e2, ⟨v', h', hv, hp, hHR, hF⟩, stp⟩ := hr T hT X
  cases hv
  rw [← e1] at hHR
  have hF2 : va_F (eQ D) st₀ T' := by
    obtain ⟨q1, q2⟩ := hF
    exact ⟨by rw [e1]; exact q1, fun q z1 z2 => by rw [e1]; exact q2 q z1 z2⟩
  rw [va_F, h0] at hF2
  obtain ⟨t2, a1, b1⟩ := kk v' h' hp p e R s m args below meth c T'.heap (locs ++ L) (cells + mc) (slots + ms) mcT msT lsA F hHR
    ⟨Nat.le_trans hS.1 hF2.1, fun q z1 z2 => by rw [hF2.2 q (Nat.lt_of_lt_of_le z1 hS.1) z2]; exact hS.2.1 q z1 z2, fun q hq => by
      rcases List.mem_append.mp hq with z | z
      · exact hS.2.2 q z
      · exact hL' q z⟩ hL (by omega) (by omega) h3 h4 T' rfl X'
  refine ⟨t2, stp t2 ?_, b1⟩
  have e3 : (v'.toList ++ st).map (cv D) = (v'.map (cv D)).toList ++ st.map (cv D) := by cases v' <;> simp
  rw [e3] at a1
  exact a1
theorem PcD_pre {D : En} {d : Nat} {M : Mt} {h : AH} {As : List Value} {p : Program} {R : Room} {s : State} {m : MethodId} {args : Array Value} {meth : Method} {c : Code} {H : Heap} {locs : List Loc} (F : Fx D d M p R s m args meth c) (hH : HR D h H) (hS : va_S (eQ D) s.heap H locs) : ∀ U : State, U.heap = H → s.WarmedH U.vm → PcD D h As (As.map (cv D)).toArray U := by
  intro U hU hW
  obtain ⟨g1, g2, g3, g4, g5, g6, g7, g8, g9, g10, g11, g12⟩ := F
  exact ⟨rfl, g9.to hW (by rw [hU]; exact hS.1) (fun q z1 z2 => by rw [hU]; exact hS.2.1 q z1 z2), va_K.moved hW.alike g10, by rw [hU]; exact hH⟩
/-- a static call -/
theorem e_callS {D : En} {d : Nat} {M : Mt} {pc : Nat} {ls : List (Option Value)} {st : List Value} {h : AH} {nc ns : Nat} {post : Option Value → AH → Prop} {idx n mc ms d' : Nat} {N : Mt} (As : List Value) {P : Option Value → AH → Prop} {st0 : List Value} (hd : decode M.2.1 pc = .ok (.invokestatic idx, 3)) (hw : Cond.methodLink M.1.cls idx N.1 ∈ tG ∧ Cond.static N.1 ∈ tG) (hN : MO N n) (hst : st0 = As.reverse ++ st) (hn : As.length = n) (hr : (st.map fun v => v.category).sum ≤ 8) (hl : (lvF As).length ≤ N.2.2.1) (hdd : d' < d)
    (hE : Ev D d' N 0 (lvA As N.2.2.1) [] h mc ms P) (kk : ∀ v h', P v h' → Ev D d M (pc + 3) ls (v.toList ++ st) h' nc ns post) : Ev D d M pc ls st0 h (nc + mc) (ns + ms) post := by
  intro p e R s m args below meth c H locs cells slots mcT msT lsA F hH hS hL h1 h2 h3 h4
  obtain ⟨g1, g2, g3, g4, g5, g6, g7, g8, g9, g10, g11, g12⟩ := id F
  have hin := wsN_in hN
  obtain ⟨n1, n2, n3, n4, n5, n6⟩ := id hN
  refine ev_tail (av := (As.map (cv D)).toArray) ?_ F hS hL h1 h2 h3 h4 kk
  refine va_runS (As := As.map (cv D)) (rest := st.map (cv D)) ⟨g1, g2, g3, g7, g8⟩ (Ev_met n1 hl hE) (va_cwS (rm := rmN d' mc ms) (mc := mc) (ms := ms) n g8 (goodAll (fun w hw' => ?_)) rfl rfl rfl ⟨n2.1, n2.2, n6⟩ ⟨by show d' + 1 ≤ _; omega, by show 8 + (N.2.2.1 + 11) + 60 * d' ≤ _; omega⟩) ⟨PcD_blind D h As, PcD_pre F hH hS⟩ rfl (by rw [List.length_map]; exact hn) hL.1 (by subst hst; simp) (lv_room (by rw [sum_cv]; exact hr)) hd ⟨by omega, by omega⟩
  simp only [va_wsS, List.mem_append, List.mem_cons, List.not_mem_nil, or_false] at hw'
  rcases hw' with (rfl | rfl | rfl) | z
  · exact hw.1
  · exact hw.2
  · exact n5
  · exact hin w z
/-- a constructor -/
theorem e_callI {D : En} {d : Nat} {M : Mt} {pc : Nat} {ls : List (Option Value)} {st : List Value} {h : AH} {nc ns : Nat} {post : Option Value → AH → Prop} {idx n mc ms d' a : Nat} {N : Mt} (As : List Value) {P : Option Value → AH → Prop} {st0 : List Value} (hd : decode M.2.1 pc = .ok (.invokespecial idx, 3)) (hw : Cond.methodLink M.1.cls idx N.1 ∈ tG ∧ Cond.instanceMethod N.1 ∈ tG ∧ N.1.name = "<init>" ∧ N.2.2.2 = none) (hN : MO N n) (hst : st0 = As.reverse ++ .ref a :: st) (hn : As.length = n) (hr : (st.map fun v => v.category).sum ≤ 8) (hl : (lvF (.ref a :: As)).length ≤ N.2.2.1) (hdd : d' < d)
    (hE : Ev D d' N 0 (lvA (.ref a :: As) N.2.2.1) [] h mc ms P) (kk : ∀ v h', P v h' → Ev D d M (pc + 3) ls (v.toList ++ st) h' nc ns post) : Ev D d M pc ls st0 h (nc + mc) (ns + ms) post := by
  intro p e R s m args below meth c H locs cells slots mcT msT lsA F hH hS hL h1 h2 h3 h4
  obtain ⟨g1, g2, g3, g4, g5, g6, g7, g8, g9, g10, g11, g12⟩ := id F
  have hin := wsN_in hN
  obtain ⟨n1, n2, n3, n4, n5, n6⟩ := id hN
  refine ev_tail (av := ((Value.ref a :: As).map (cv D)).toArray) ?_ F hS hL h1 h2 h3 h4 kk
  have hG : GoodIn tG (wsN N) := goodAll hin
  refine va_runI (b := ad D a) (As := As.map (cv D)) (rest := st.map (cv D)) ⟨g1, g2, g3, g7, g8⟩ (Ev_met n1 hl hE) (cwI (rm := rmN d' mc ms) (mc := mc) (ms := ms) n g8 hG (by rw [wsN, hw.2.2.2]) rfl rfl (g8 _ n5) (g8 _ hw.1) (g8 _ hw.2.1) hw.2.2.1 ⟨n2.1, n2.2, n6⟩ ⟨by show d' + 1 ≤ _; omega, by show 8 + (N.2.2.1 + 11) + 60 * d' ≤ _; omega⟩) ⟨PcD_blind D h (.ref a :: As), PcD_pre (As := .ref a :: As) F hH hS⟩ rfl (by rw [List.length_map]; exact hn) hL.1 (by subst hst; simp [cv]) (lv_room (by rw [sum_cv]; exact hr)) hd ⟨by omega, by omega⟩
/-- an object's class -/
theorem recvO {D : En} {d : Nat} {M : Mt} {h : AH} {p : Program} {R : Room} {s : State} {m : MethodId} {args : Array Value} {meth : Method} {c : Code} {H : Heap} {a ci : Nat} {fs : List Value} {q : vw_C} (F : Fx D d M p R s m args meth c) (hH : HR D h H) (hc : h[a]? = some (.inr (ci, fs))) (hq : vwCl[ci]? = some q) : ∃ cell : Cell, H[ad D a]? = some cell ∧ cell.vm.isStatics = false ∧ s.vm.findClass q.1 = some cell.cls := by
  obtain ⟨g1, g2, g3, g4, g5, g6, g7, g8, g9, g10, g11, g12⟩ := F
  exact va_recv g10 hH.1 hq (wsO_at hc (hH.hiO g9 hc (vw13 hq)))
/-- the class of an object of the made ones, or of a text -/
def CN (h : AH) (a : Nat) (C : String) : Prop := (∃ (ci : Nat) (fs : List Value) (q : vw_C), h[a]? = some (.inr (ci, fs)) ∧ vwCl[ci]? = some q ∧ q.1 = C) ∨ (C = "java/lang/String" ∧ a < nX ∧ ∃ fs : List Value, h[a]? = some (.inr (13, fs)))
theorem recvC {D : En} {d : Nat} {M : Mt} {h : AH} {p : Program} {R : Room} {s : State} {m : MethodId} {args : Array Value} {meth : Method} {c : Code} {H : Heap} {locs : List Loc} {a : Nat} {C : String} (F : Fx D d M p R s m args meth c) (hH : HR D h H) (hS : va_S (eQ D) s.heap H locs) (hc : CN h a C) : ∃ cell : Cell, H[ad D a]? = some cell ∧ cell.vm.isStatics = false ∧ s.vm.findClass C = some cell.cls := by
  rcases hc with ⟨ci, fs, q, h1, h2, rfl⟩ | ⟨rfl, ha, fs, h1⟩
  · exact recvO F hH h1 h2
  · have hA := F.2.2.2.2.2.2.2.2.1.1 a ha
    unfold XA at hA
    rw [hH.lo ha, h1] at hA
    obtain ⟨cell, z1, z2, z3, z4⟩ := hA.2.1.kept hS.2.1
    exact ⟨cell, by rw [ad_lo D ha]; exact z1, z2, z3⟩
/-- a virtual call of a method that its object's class declares itself -/
theorem e_callV {D : En} {d : Nat} {M : Mt} {pc : Nat} {ls : List (Option Value)} {st : List Value} {h : AH} {nc ns : Nat} {post : Option Value → AH → Prop} {idx n mc ms d' a : Nat} {N : Mt} (As : List Value) {P : Option Value → AH → Prop} {st0 : List Value} (hd : decode M.2.1 pc = .ok (.invokevirtual idx, 3)) (hw : Cond.methodLink M.1.cls idx N.1 ∈ tG ∧ Cond.instanceMethod N.1 ∈ tG ∧ Cond.selects N.1.cls N.1 N.1 ∈ tG) (hN : MO N n) (hc : CN h a N.1.cls) (hst : st0 = As.reverse ++ .ref a :: st) (hn : As.length = n) (hr : (st.map fun v => v.category).sum ≤ 8) (hl : (lvF (.ref a :: As)).length ≤ N.2.2.1) (hdd : d' < d)
    (hE : Ev D d' N 0 (lvA (.ref a :: As) N.2.2.1) [] h mc ms P) (kk : ∀ v h', P v h' → Ev D d M (pc + 3) ls (v.toList ++ st) h' nc ns post) : Ev D d M pc ls st0 h (nc + mc) (ns + ms) post := by
  intro p e R s m args below meth c H locs cells slots mcT msT lsA F hH hS hL h1 h2 h3 h4
  obtain ⟨g1, g2, g3, g4, g5, g6, g7, g8, g9, g10, g11, g12⟩ := id F
  have hin := wsN_in hN
  obtain ⟨n1, n2, n3, n4, n5, n6⟩ := id hN
  refine ev_tail (av := ((Value.ref a :: As).map (cv D)).toArray) ?_ F hS hL h1 h2 h3 h4 kk
  refine va_runV (b := ad D a) (As := As.map (cv D)) (rest := st.map (cv D)) (C := N.1.cls) ⟨g1, g2, g3, g7, g8⟩ (Ev_met n1 hl hE) (cwV (rm := rmN d' mc ms) (mc := mc) (ms := ms) n g8 (goodAll (fun w hw' => ?_)) rfl rfl rfl ⟨rfl, n2.1, n2.2, n6⟩ ⟨by show d' + 1 ≤ _; omega, by show 8 + (N.2.2.1 + 11) + 60 * d' ≤ _; omega⟩) ⟨PcD_blind D h (.ref a :: As), recvC F hH hS hc, PcD_pre (As := .ref a :: As) F hH hS⟩ rfl (by rw [List.length_map]; exact hn) hL.1 (by subst hst; simp [cv]) (lv_room (by rw [sum_cv]; exact hr)) hd ⟨by omega, by omega⟩
  simp only [wsV, List.mem_append, List.mem_cons, List.not_mem_nil, or_false] at hw'
  rcases hw' with (rfl | rfl | rfl | rfl) | z
  · exact hw.1
  · exact hw.2.1
  · exact hw.2.2
  · exact n5
  · exact hin w z
/-- a virtual call by a name of a class above: x is what the pool says, owner declares it, N is what the object's class selects -/
theorem e_callO {D : En} {d : Nat} {M : Mt} {pc : Nat} {ls : List (Option Value)} {st : List Value} {h : AH} {nc ns : Nat} {post : Option Value → AH → Prop} {idx n mc ms d' a : Nat} {N : Mt} {x : MethodName} {owner C : String} (As : List Value) {P : Option Value → AH → Prop} {st0 : List Value} (hd : decode M.2.1 pc = .ok (.invokevirtual idx, 3)) (hw : (Cond.methodLink M.1.cls idx x ∈ tG ∧ Cond.sameMethod x.cls owner x.name x.desc ∈ tG ∧ Cond.instanceMethod ⟨owner, x.name, x.desc⟩ ∈ tG ∧ Cond.selects C x N.1 ∈ tG ∧ Cond.instanceMethod N.1 ∈ tG) ∧ (∃ b0 m0 r0, Cond.code ⟨owner, x.name, x.desc⟩ b0 m0 r0 ∈ tG) ∧ owner ≠ "java/lang/invoke/MethodHandle" ∧ owner ≠ "java/lang/invoke/VarHandle" ∧ (parseMethodDescriptor x.desc).map (fun d => d.parameters.length) = some n) (hN : MO N n) (hc : CN h a C) (hst : st0 = As.reverse ++ .ref a :: st) (hn : As.length = n) (hr : (st.map fun v => v.category).sum ≤ 8) (hl : (lvF (.ref a :: As)).length ≤ N.2.2.1) (hdd : d' < d)
    (hE : Ev D d' N 0 (lvA (.ref a :: As) N.2.2.1) [] h mc ms P) (kk : ∀ v h', P v h' → Ev D d M (pc + 3) ls (v.toList ++ st) h' nc ns post) : Ev D d M pc ls st0 h (nc + mc) (ns + ms) post := by
  intro p e R s m args below meth c H locs cells slots mcT msT lsA F hH hS hL h1 h2 h3 h4
  obtain ⟨g1, g2, g3, g4, g5, g6, g7, g8, g9, g10, g11, g12⟩ := id F
  have hin := wsN_in hN
  obtain ⟨n1, n2, n3, n4, n5, n6⟩ := id hN
  obtain ⟨⟨w1, w2, w3, w4, w5⟩, ⟨b0, m0, r0, w6⟩, w7, w8, w9⟩ := hw
  refine ev_tail (av := ((Value.ref a :: As).map (cv D)).toArray) ?_ F hS hL h1 h2 h3 h4 kk
  refine va_runU (b := ad D a) (As := As.map (cv D)) (rest := st.map (cv D)) (C := C) ⟨g1, g2, g3, g7, g8⟩ (Ev_met n1 hl hE) (va_cwO (rm := rmN d' mc ms) (mc := mc) (ms := ms) n g8 (goodAll (fun w hw' => ?_)) rfl rfl rfl w6 ⟨w7, w8, w9⟩ ⟨by show d' + 1 ≤ _; omega, by show 8 + (N.2.2.1 + 11) + 60 * d' ≤ _; omega⟩) ⟨PcD_blind D h (.ref a :: As), recvC F hH hS hc, PcD_pre (As := .ref a :: As) F hH hS⟩ rfl (by rw [List.length_map]; exact hn) hL.1 (by subst hst; simp [cv]) (lv_room (by rw [sum_cv]; exact hr)) hd ⟨by omega, by omega⟩
  simp only [va_wsO, List.mem_append, List.mem_cons, List.not_mem_nil, or_false] at hw'
  rcases hw' with (rfl | rfl | rfl | rfl | rfl | rfl) | z
  · exact w1
  · exact w2
  · exact w3
  · exact w4
  · exact w5
  · exact n5
  · exact hin w z
/-- super.f(..) -/
theorem e_callU {D : En} {d : Nat} {M : Mt} {pc : Nat} {ls : List (Option Value)} {st : List Value} {h : AH} {nc ns : Nat} {post : Option Value → AH → Prop} {idx n mc ms d' a ci : Nat} {fs : List Value} {q : vw_C} {N : Mt} (As : List Value) {P : Option Value → AH → Prop} {st0 : List Value} (hd : decode M.2.1 pc = .ok (.invokespecial idx, 3)) (hw : Cond.methodLink M.1.cls idx N.1 ∈ tG ∧ Cond.sameMethod N.1.cls N.1.cls N.1.name N.1.desc ∈ tG ∧ Cond.superclass M.1.cls N.1.cls ∈ tG ∧ Cond.instanceMethod N.1 ∈ tG ∧ N.1.name ≠ "<init>") (hN : MO N n) (hc : h[a]? = some (.inr (ci, fs))) (hq : vwCl[ci]? = some q) (hst : st0 = As.reverse ++ .ref a :: st) (hn : As.length = n) (hr : (st.map fun v => v.category).sum ≤ 8) (hl : (lvF (.ref a :: As)).length ≤ N.2.2.1) (hdd : d' < d)
    (hE : Ev D d' N 0 (lvA (.ref a :: As) N.2.2.1) [] h mc ms P) (kk : ∀ v h', P v h' → Ev D d M (pc + 3) ls (v.toList ++ st) h' nc ns post) : Ev D d M pc ls st0 h (nc + mc) (ns + ms) post := by
  intro p e R s m args below meth c H locs cells slots mcT msT lsA F hH hS hL h1 h2 h3 h4
  obtain ⟨g1, g2, g3, g4, g5, g6, g7, g8, g9, g10, g11, g12⟩ := id F
  have hin := wsN_in hN
  obtain ⟨n1, n2, n3, n4, n5, n6⟩ := id hN
  obtain ⟨w1, w2, w3, w4, w5⟩ := hw
  refine ev_tail (av := ((Value.ref a :: As).map (cv D)).toArray) ?_ F hS hL h1 h2 h3 h4 kk
  refine va_runSU (b := ad D a) (As := As.map (cv D)) (rest := st.map (cv D)) (C := q.1) (g10.1 ci q hq).2 ⟨g1, g2, g3, g7, g8⟩ (Ev_met n1 hl hE) (va_cwSU (rm := rmN d' mc ms) (mc := mc) (ms := ms) n g8 (goodAll (fun w hw' => ?_)) rfl rfl rfl ⟨w5, n6⟩ ⟨by show d' + 1 ≤ _; omega, by show 8 + (N.2.2.1 + 11) + 60 * d' ≤ _; omega⟩) ⟨PcD_blind D h (.ref a :: As), recvO F hH hc hq, PcD_pre (As := .ref a :: As) F hH hS⟩ rfl (by rw [List.length_map]; exact hn) hL.1 (by subst hst; simp [cv]) (lv_room (by rw [sum_cv]; exact hr)) hd ⟨by omega, by omega⟩
  simp only [va_wsSU, List.mem_append, List.mem_cons, List.not_mem_nil, or_false] at hw'
  rcases hw' with (rfl | rfl | rfl | rfl | rfl) | z
  · exact w1
  · exact w2
  · exact w3
  · exact w4
  · exact n5
  · exact hin w z
/-- the copy of the static row of rates -/
theorem e_clone {D : En} {d : Nat} {M : Mt} {pc : Nat} {ls : List (Option Value)} {st : List Value} {h : AH} {nc ns : Nat} {post : Option Value → AH → Prop} {idx : Nat} {f : Nat → Int32} (hd : decode M.2.1 pc = .ok (.invokevirtual idx, 3)) (hw : Cond.methodLink M.1.cls idx ⟨"[I", "clone", "()Ljava/lang/Object;"⟩ ∈ tG ∧ Cond.sameMethod "[I" "java/lang/Object" "clone" "()Ljava/lang/Object;" ∈ tG ∧ Cond.native ⟨"java/lang/Object", "clone", "()Ljava/lang/Object;"⟩ ∈ tG ∧ Cond.instanceMethod ⟨"java/lang/Object", "clone", "()Ljava/lang/Object;"⟩ ∈ tG ∧ Cond.selects "[I" ⟨"[I", "clone", "()Ljava/lang/Object;"⟩ ⟨"java/lang/Object", "clone", "()Ljava/lang/Object;"⟩ ∈ tG) (hr : (st.map fun v => v.category).sum ≤ 8) (hdd : 0 < d) (hc : h[3]? = some (.inl (6, 6, .inl f)))
    (kk : Ev D d M (pc + 3) ls (.ref h.length :: st) (h ++ [.inl (0, 6, .inl f)]) nc ns post) : Ev D d M pc ls (.ref 3 :: st) h (nc + 1) (ns + 6) post := by
  intro p e R s m args below meth c H locs cells slots mcT msT lsA F hH hS hL h1 h2 h3 h4
  obtain ⟨g1, g2, g3, g4, g5, g6, g7, g8, g9, g10, g11, g12⟩ := id F
  obtain ⟨w1, w2, w3, w4, w5⟩ := hw
  obtain ⟨cell, f', c1, c2, c3, c4, c5, c6, c7⟩ := g9.2.1
  rw [hH.lo (by decide), hc] at c3
  cases c3
  have hcast := g9.2.2.2.2.2.1.1 ("[I", "java/lang/Cloneable") (by decide)
  obtain ⟨ci, ct, r1, r2, r3⟩ := Cond.castable_spec (va_Nw.use (A := args) rfl hcast)
  have hI : s.vm.findClass "[I" = some (eC D 0) := (g10.2 0 (eC D 0, .int) rfl).2
  obtain ⟨-, kS, hkS, compS, hkindS⟩ := (g10.2 0 (eC D 0, .int) rfl).1 0 (fun _ => .null)
  refine W_tight fun c0 hc0 hz0 => ?_
  intro T hT X
  obtain ⟨-, kA, hkA, comp, hkind⟩ := State.isArrayOf_alike X.warmed.alike ((g10.2 0 (eC D 0, .int) rfl).1 0 (fun _ => .null))
  have hsz : cell.slots.size = 6 := by rw [c7]; simp
  have hbs := g9.2.2.2.2.2.2.1
  have hcellT : T.heap[ad D 3]? = some cell := by
    rw [hT, ad_lo D (by decide), hS.2.1 (eX D 3) (by omega) (by unfold eQ; omega)]
    exact c1
  obtain ⟨vm', X', stp⟩ := X.cloneArray g1 g7 (g8 _ w1) (g8 _ w2) (g8 _ w3) (g8 _ w4) (g8 _ w5) (a := ad D 3) (cell := cell) hcellT (fun k z => by rw [z] at c5; cases c5) c4 (by rw [c6]; exact hI) r2 (by
      rw [c6]
      have : ci = eC D 0 := Option.some.inj (r1.symm.trans hI)
      rw [← this]; exact r3)
    (fun i v hv => by
      rw [c6]
      have hk' : T.vm.classes[eC D 0]? = some kA := hkA
      rw [c7] at hv
      have : ∃ z : Int32, v = .int z := by
        rw [Array.getElem?_ofFn] at hv
        split at hv
        · simp at hv; exact ⟨_, hv.symm⟩
        · cases hv
      obtain ⟨z, rfl⟩ := this
      simp [State.fitsSlot, State.slotType?, hk', hkind, fits])
    (g := F0 m pc lsA (.ref (ad D 3) :: st.map (cv D))) rfl (hL.1.trans g3.symm) rfl (by rw [g2]; exact hd) (by omega) (by show 2 * 0 + _ + 14 ≤ _; rw [sum_cv]; omega) (by omega) (by rw [hsz]; omega) (hloader := by rw [c6]; exact Vm.clonesLoader_of_array hkS hkindS)
  have hcellE : ({ cls := cell.cls, slots := cell.slots } : Cell) = vp_cell (eC D 0) (6, .inl f) := by
    rw [c6, c7]; rfl
  rw [hcellE, hsz] at X'
  rw [hcellE] at stp
  have hH1 : HR D (h ++ [.inl (0, 6, .inl f)]) (H.push (vp_cell (eC D 0) (6, .inl f))) := by
    have hk : ∀ (k : Nat) (y : Nat × va_E), (wsO D h)[k]? = some y → (H.push (vp_cell (eC D 0) (6, .inl f)))[y.1]? = H[y.1]? := fun k y hy => by
      rw [Array.getElem?_push, if_neg (Nat.ne_of_lt ((hH.1 k y hy).lt))]
    refine (hH.push (q := H.size) (c := .inl (0, 6, .inl f)) ((hH.1.kept hk).app (fun k x hx => ?_)) (hH.2.1.push hH.1 rfl ?_) (by simp)).1
    · have hz : k < 1 := (List.getElem?_eq_some_iff.mp hx).1
      rw [show k = 0 by omega] at hx
      cases hx
      show (H.push _)[H.size]? = some (vp_cell _ _)
      rw [Array.getElem?_push_size]; rfl
    · have := g9.2.2.2.2.2.2.1
      have z1 := hS.1
      unfold eQ; omega
  have hq : T.heap.size = ad D h.length := by
    rw [hT, hH.2.2.1, ad_hi D hH.2.2.2.1]
  rw [hq] at stp
  obtain ⟨t, b1, b2⟩ := kk p e R s m args below meth c (H.push (vp_cell (eC D 0) (6, .inl f))) locs (c0 + 1) (slots + 6) mcT msT lsA F hH1 ⟨by simp; have := hS.1; omega, fun q z1 z2 => by rw [Array.getElem?_push, if_neg (by have := hS.1; omega)]; exact hS.2.1 q z1 z2, hS.2.2⟩ hL (by omega) (by omega) h3 h4 _ (by show T.heap.push _ = _; rw [hT]) X'
  exact ⟨t, stp t b1, b2⟩
theorem e_castI {D : En} {d : Nat} {M : Mt} {pc : Nat} {ls : List (Option Value)} {st : List Value} {h : AH} {nc ns : Nat} {post : Option Value → AH → Prop} {idx a n : Nat} {f : Nat → Int32} (hd : decode M.2.1 pc = .ok (.checkcast idx, 3)) (hl : Cond.classLink M.1.cls idx "[I" ∈ tG) (hc : h[a]? = some (.inl (0, n, .inl f))) (kk : Ev D d M (pc + 3) ls (.ref a :: st) h nc ns post) : Ev D d M pc ls (.ref a :: st) h nc ns post := by
  intro p e R s m args below meth c H locs cells slots mcT msT lsA F hH hS hL h1 h2 h3 h4
  obtain ⟨g1, g2, g3, g4, g5, g6, g7, g8, g9, g10, g11, g12⟩ := id F
  have ha := hH.hiI g9 hc
  exact va_castA g1 g2 g7 (g8 _ hl) hH.1 (a - nX) (wsO_at hc ha) ((g10.2 0 (eC D 0, .int) rfl).2) hd (kk p e R s m args below meth c H locs cells slots mcT msT lsA F hH hS hL h1 h2 h3 h4)
