/-! Math's own, and super.f(..) of a class further above -/
def MW (own : String) (idx : Nat) (y : MethodName) (cd : ByteArray) (n : Nat) (r : Option FieldType) : Prop := Cond.methodLink own idx y ∈ tG ∧ Cond.static y ∈ tG ∧ Cond.initialized "java/lang/Math" ∈ tG ∧ Cond.code y cd n r ∈ tG
theorem e_mmax {D : En} {d : Nat} {M : Mt} {pc : Nat} {ls : List (Option Value)} {st : List Value} {h : AH} {nc ns : Nat} {post : Option Value → AH → Prop} {idx : Nat} {x y : Int32} (hd : decode M.2.1 pc = .ok (.invokestatic idx, 3)) (hw : MW M.1.cls idx Lib.Math.max.name Lib.Math.max.code 2 (some .int)) (hdd : 0 < d) (hr : (st.map fun v => v.category).sum ≤ 8) (kk : Ev D d M (pc + 3) ls (.int (if x < y then y else x) :: st) h nc ns post) : Ev D d M pc ls (.int y :: .int x :: st) h nc ns post := by
  intro p e R s m args below meth c H locs cells slots mcT msT lsA F hH hS hL h1 h2 h3 h4
  obtain ⟨g1, g2, g3, g4, g5, g6, g7, g8, g9, g10, g11, g12⟩ := id F
  exact va_mmax g1 g2 (g3.trans hL.1.symm) g7 (g8 _ hw.1) (g8 _ hw.2.1) (g8 _ hw.2.2.1) (g8 _ hw.2.2.2) (by omega) (by rw [sum_cv]; omega) (by omega) (by omega) hd (kk p e R s m args below meth c H locs cells slots mcT msT lsA F hH hS hL h1 h2 h3 h4)
theorem e_mmin {D : En} {d : Nat} {M : Mt} {pc : Nat} {ls : List (Option Value)} {st : List Value} {h : AH} {nc ns : Nat} {post : Option Value → AH → Prop} {idx : Nat} {x y : Int32} (hd : decode M.2.1 pc = .ok (.invokestatic idx, 3)) (hw : MW M.1.cls idx Lib.Math.min.name Lib.Math.min.code 2 (some .int)) (hdd : 0 < d) (hr : (st.map fun v => v.category).sum ≤ 8) (kk : Ev D d M (pc + 3) ls (.int (if y < x then y else x) :: st) h nc ns post) : Ev D d M pc ls (.int y :: .int x :: st) h nc ns post := by
  intro p e R s m args below meth c H locs cells slots mcT msT lsA F hH hS hL h1 h2 h3 h4
  obtain ⟨g1, g2, g3, g4, g5, g6, g7, g8, g9, g10, g11, g12⟩ := id F
  exact va_mmin g1 g2 (g3.trans hL.1.symm) g7 (g8 _ hw.1) (g8 _ hw.2.1) (g8 _ hw.2.2.1) (g8 _ hw.2.2.2) (by omega) (by rw [sum_cv]; omega) (by omega) (by omega) hd (kk p e R s m args below meth c H locs cells slots mcT msT lsA F hH hS hL h1 h2 h3 h4)
theorem e_mabs {D : En} {d : Nat} {M : Mt} {pc : Nat} {ls : List (Option Value)} {st : List Value} {h : AH} {nc ns : Nat} {post : Option Value → AH → Prop} {idx : Nat} {x : Int32} (hd : decode M.2.1 pc = .ok (.invokestatic idx, 3)) (hw : MW M.1.cls idx Lib.Math.abs.name Lib.Math.abs.code 1 (some .int)) (hdd : 0 < d) (hr : (st.map fun v => v.category).sum ≤ 8) (kk : Ev D d M (pc + 3) ls (.int (if 0 ≤ x then x else 0 - x) :: st) h nc ns post) : Ev D d M pc ls (.int x :: st) h nc ns post := by
  intro p e R s m args below meth c H locs cells slots mcT msT lsA F hH hS hL h1 h2 h3 h4
  obtain ⟨g1, g2, g3, g4, g5, g6, g7, g8, g9, g10, g11, g12⟩ := id F
  exact va_mabs g1 g2 (g3.trans hL.1.symm) g7 (g8 _ hw.1) (g8 _ hw.2.1) (g8 _ hw.2.2.1) (g8 _ hw.2.2.2) (by omega) (by rw [sum_cv]; omega) (by omega) (by omega) hd (kk p e R s m args below meth c H locs cells slots mcT msT lsA F hH hS hL h1 h2 h3 h4)
theorem e_mmaxL {D : En} {d : Nat} {M : Mt} {pc : Nat} {ls : List (Option Value)} {st : List Value} {h : AH} {nc ns : Nat} {post : Option Value → AH → Prop} {idx : Nat} {x y : Int64} (hd : decode M.2.1 pc = .ok (.invokestatic idx, 3)) (hw : MW M.1.cls idx Lib.MathLoose.max_long.x Lib.MathLoose.max_long.code 4 (some .long)) (hdd : 0 < d) (hr : (st.map fun v => v.category).sum ≤ 8) (kk : Ev D d M (pc + 3) ls (.long (if y < x then x else y) :: st) h nc ns post) : Ev D d M pc ls (.long y :: .long x :: st) h nc ns post := by
  intro p e R s m args below meth c H locs cells slots mcT msT lsA F hH hS hL h1 h2 h3 h4
  obtain ⟨g1, g2, g3, g4, g5, g6, g7, g8, g9, g10, g11, g12⟩ := id F
  exact va_mmax_long g1 g2 (g3.trans hL.1.symm) g7 (g8 _ hw.1) (g8 _ hw.2.1) (g8 _ hw.2.2.1) (g8 _ hw.2.2.2) (by omega) (by rw [sum_cv]; omega) (by omega) (by omega) hd (kk p e R s m args below meth c H locs cells slots mcT msT lsA F hH hS hL h1 h2 h3 h4)
theorem e_mminL {D : En} {d : Nat} {M : Mt} {pc : Nat} {ls : List (Option Value)} {st : List Value} {h : AH} {nc ns : Nat} {post : Option Value → AH → Prop} {idx : Nat} {x y : Int64} (hd : decode M.2.1 pc = .ok (.invokestatic idx, 3)) (hw : MW M.1.cls idx Lib.MathLoose.min_long.x Lib.MathLoose.min_long.code 4 (some .long)) (hdd : 0 < d) (hr : (st.map fun v => v.category).sum ≤ 8) (kk : Ev D d M (pc + 3) ls (.long (if y < x then y else x) :: st) h nc ns post) : Ev D d M pc ls (.long y :: .long x :: st) h nc ns post := by
  intro p e R s m args below meth c H locs cells slots mcT msT lsA F hH hS hL h1 h2 h3 h4
  obtain ⟨g1, g2, g3, g4, g5, g6, g7, g8, g9, g10, g11, g12⟩ := id F
  exact va_mmin_long g1 g2 (g3.trans hL.1.symm) g7 (g8 _ hw.1) (g8 _ hw.2.1) (g8 _ hw.2.2.1) (g8 _ hw.2.2.2) (by omega) (by rw [sum_cv]; omega) (by omega) (by omega) hd (kk p e R s m args below meth c H locs cells slots mcT msT lsA F hH hS hL h1 h2 h3 h4)
/-- super.f(..) where the class above has it from the one above that: own, sup, N's class -/
theorem e_callW {D : En} {d : Nat} {M : Mt} {pc : Nat} {ls : List (Option Value)} {st : List Value} {h : AH} {nc ns : Nat} {post : Option Value → AH → Prop} {idx n mc ms d' a ci : Nat} {fs : List Value} {q : vw_C} {N : Mt} {x : MethodName} (As : List Value) {P : Option Value → AH → Prop} {st0 : List Value} (hd : decode M.2.1 pc = .ok (.invokespecial idx, 3)) (hw : (Cond.methodLink M.1.cls idx x ∈ tG ∧ Cond.sameMethod x.cls N.1.cls x.name x.desc ∈ tG ∧ Cond.superclass M.1.cls x.cls ∈ tG ∧ Cond.superclass x.cls N.1.cls ∈ tG ∧ Cond.instanceMethod N.1 ∈ tG) ∧ x.name ≠ "<init>" ∧ N.1.name = x.name ∧ N.1.desc = x.desc) (hN : MO N n) (hc : h[a]? = some (.inr (ci, fs))) (hq : vwCl[ci]? = some q) (hst : st0 = As.reverse ++ .ref a :: st) (hn : As.length = n) (hr : (st.map fun v => v.category).sum ≤ 8) (hl : (lvF (.ref a :: As)).length ≤ N.2.2.1) (hdd : d' < d)
    (hE : Ev D d' N 0 (lvA (.ref a :: As) N.2.2.1) [] h mc ms P) (kk : ∀ v h', P v h' → Ev D d M (pc + 3) ls (v.toList ++ st) h' nc ns post) : Ev D d M pc ls st0 h (nc + mc) (ns + ms) post := by
  intro p e R s m args below meth c H locs cells slots mcT msT lsA F hH hS hL h1 h2 h3 h4
  obtain ⟨g1, g2, g3, g4, g5, g6, g7, g8, g9, g10, g11, g12⟩ := id F
  have hin := wsN_in hN
  obtain ⟨n1, n2, n3, n4, n5, n6⟩ := id hN
  obtain ⟨⟨w1, w2, w3, w4, w5⟩, w6, w7, w8⟩ := hw
  refine ev_tail (av := ((Value.ref a :: As).map (cv D)).toArray) ?_ F hS hL h1 h2 h3 h4 kk
  have hM := Ev_met n1 hl hE
  have hK : Back (eL D) R p e below s args N.1 3 8 (PreOf R mc ms (PcD D h (.ref a :: As))) (PostOf (Qc D P) mc ms (eQ D)) := back_of (bytes := N.2.1) (maxL := N.2.2.1) (ret := N.2.2.2) hM (PcD_blind D h (.ref a :: As)) rfl rfl (by show d' + 1 ≤ _; omega) (by show 8 + (N.2.2.1 + 11) + 60 * d' ≤ _; omega) (fun w hw a' U hW => word_at hW (tG_good w (hin w hw)) (g8 w (hin w hw))) List.mem_cons_self (fun a' U hW => word_at hW (tG_good _ n5) (g8 _ n5))
  obtain ⟨cellB, hcB, hoB, hclB⟩ := recvO F hH hc hq
  obtain ⟨hfc, kB, hkB, -⟩ := (g10.1 ci q hq).2
  have hcl9 : cellB.cls = (eG D).1 ci := (Option.some.inj (hfc.symm.trans hclB)).symm
  rw [← hcl9] at hkB
  obtain ⟨mk, methM, hnamed, hmethM, hstM, habM⟩ := Cond.instanceMethod_spec (g8 _ w5)
  obtain ⟨methM', cM, hmethM', -, -, -, -, -, -, hsigM⟩ := Cond.code_spec hnamed (g8 _ n4)
  cases hmethM.symm.trans hmethM'
  obtain ⟨ps, dk, kp, hps, hdk, hkp, hsuper, -, -, hnid⟩ := Cond.superclass_spec g7 (g8 _ w3)
  obtain ⟨ps2, dk2, kp2, hps2, hdk2, hkp2, hsuper2, -, -, -⟩ := Cond.superclass_spec hps (g8 _ w4)
  have hn' : s.methodNamed? ⟨N.1.cls, x.name, x.desc⟩ = some mk := by rw [← w7, ← w8]; exact hnamed
  have hpm : ps2 = mk.cls := Option.some.inj (hps2.symm.trans (findClass_of_methodNamed hnamed))
  have hsz : ps < s.vm.classes.size := (Array.getElem?_eq_some_iff.mp hdk2).1
  have hsub : s.vm.isSubclass ps mk.cls = true := by
    rw [← hpm]
    unfold Vm.isSubclass
    cases hz : s.vm.classes.size with
    | zero => rw [hz] at hsz; exact absurd hsz (Nat.not_lt_zero _)
    | succ z => simp [Vm.isSubclassAux, hdk2, hsuper2]
  intro T hT X
  obtain ⟨vm₁, X₁, hstep₁⟩ := X.invokespecialUp g1 g7 (g8 _ w1) (g8 _ w2) hn' hmethM hstM habM w6 hdk hnid hps hsuper hsub (a := ad D a) (cell := cellB) (by rw [hT]; exact hcB)
    (fun z hz => by rw [hz] at hoB; cases hoB) hkB (g := F0 m pc lsA (st0.map (cv D))) rfl (argsL := As.map (cv D)) (rest := st.map (cv D)) (by
      rw [List.length_map, hn]
      have h2 := n6
      rw [hsigM] at h2
      exact (Option.some.inj h2).symm) (by subst hst; simp [cv]) (by rw [g2]; exact hd)
  obtain ⟨v, ⟨U', l2, c2, s2⟩, X', ⟨g', mk', t, L, e1, e2, hqq, z1, hL', z2, z3⟩, hsteps⟩ := hK m meth c ⟨T.setVm vm₁, locs, cells, slots⟩ { F0 m pc lsA (st0.map (cv D)) with stack := st.map (cv D) } (.invokespecial idx) mk (Value.ref (ad D a) :: As.map (cv D)).toArray X₁ rfl (hL.1.trans g3.symm) (by rw [g2]; exact hd) (lv_room (by rw [sum_cv]; exact hr)) (X₁.named hnamed) ⟨by show cells + mc ≤ _; omega, by show slots + ms ≤ _; omega, PcD_pre (As := .ref a :: As) F hH hS (T.setVm vm₁) hT X₁.warmed⟩
  dsimp only [Pt.U, Pt.locs, Pt.cells, Pt.slots] at X' e1 e2 z1 z2 z3 hsteps
  subst z1; subst z2; subst z3
  exact ⟨v, (T.setVm vm₁).calling g' mk' (Value.ref (ad D a) :: As.map (cv D)).toArray, t, U', L, hT, X', hL', e1, e2, hqq, fun target hh => hstep₁ _ (by rw [doInvoke_state]; exact hsteps.trans hh)⟩
