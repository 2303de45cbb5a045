theorem hgv {h h' : AH} (hl : h.length ≤ 101) : HG h h' := fun x c hx hc => absurd (List.getElem?_eq_some_iff.mp hc).1 (by omega)
theorem NR.push {h : AH} {c : AC} (n : NR h) (hc : ∀ fs, c ≠ .inr (6, fs)) : NR (h ++ [c]) := by
  intro r fs hr
  by_cases e : r < h.length
  · rw [get_push e] at hr; exact n r fs hr
  · have hl := (List.getElem?_eq_some_iff.mp hr).1
    rw [List.length_append] at hl
    have e2 : r = h.length := by have : [c].length = 1 := rfl; omega
    rw [e2, List.getElem?_concat_length] at hr
    exact hc fs (Option.some.inj hr)
theorem NR.put {h h' : AH} {a ci : Nat} {gs : List Value} (n : NR h) (hci : ci ≠ 6) (g1 : h'[a]? = some (.inr (ci, gs))) (g4 : ∀ x, x ≠ a → h'[x]? = h[x]?) : NR h' := by
  intro r fs hr
  by_cases e : r = a
  · rw [e, g1] at hr
    exact hci (congrArg (fun q : Option AC => match q with | some (.inr z) => z.1 | _ => 0) hr)
  · rw [g4 r e] at hr; exact n r fs hr
theorem k_rinitN (D : En) {h : AH} {a : Nat} {fs : List Value} (ho : h[a]? = some (.inr (5, fs))) (hl : fs.length = 3) (n : Nat) (hn : n ≤ 1000) (hN : NR h) : Sp D 1 mX5_init [.ref a, .int (nI n)] h 1 n none (fun h' => h'[a]? = some (.inr (5, [.ref h.length, .int (nI 0), .int (nI 0)])) ∧ Row0 h' h.length n (fun _ => 0) ∧ h'.length = h.length + 1 ∧ (∀ x, x ≠ a → x < h.length → h'[x]? = h[x]?) ∧ NR h') := by
  refine (k_rinit D ho hl n hn).weak (fun h' hP => ?_)
  obtain ⟨p1, p2, p3, p4⟩ := hP
  refine ⟨p1, p2, p3, p4, fun r gs hr => ?_⟩
  by_cases e1 : r = a
  · rw [e1, p1] at hr; cases hr
  by_cases e2 : r = h.length
  · rw [e2] at hr; cases p2.symm.trans hr
  have h2 := (List.getElem?_eq_some_iff.mp hr).1
  rw [p4 r e1 (by omega)] at hr
  exact hN r gs hr
set_option maxRecDepth 20000 in
theorem k_dinit (D : En) {h : AH} {a : Nat} {fs : List Value} (ho : h[a]? = some (.inr (2, fs))) (hl : fs.length = 4) (hlen : h.length = a + 1) (ha : 11 ≤ a) (ha2 : a + 17 ≤ 101) {f3 : Nat → Int32} (h3 : h[3]? = some (.inl (6, 6, .inl f3))) (hf3 : ∀ k, k < 6 → f3 k = N0 (7 + k)) (hn : NR h) : Sp D 2 mX2_init [.ref a] h 16 192 none (fun h' => DeskAt h' a N0 ∧ h'.length = a + 17 ∧ (∀ x, x < a → h'[x]? = h[x]?) ∧ NR h') := by
  obtain ⟨x0, x1, x2, x3, rfl⟩ : ∃ x0 x1 x2 x3, fs = [x0, x1, x2, x3] := by
    match fs, hl with
    | [x0, x1, x2, x3], _ => exact ⟨x0, x1, x2, x3, rfl⟩
  intro post hp
  show Ev D 2 mX2_init 0 [some (.ref a)] [] h 16 192 post
  refine e_aload_n dX2_init_0 rfl ?_
  refine e_objInit dX2_init_1 oi_X2_3 (by decide) (Nat.le_of_ble_eq_true rfl) ?_
  refine e_aload_n dX2_init_4 rfl ?_
  refine e_new (M := mX2_init) (N := 16) (nc := 15) (ns := 176) dX2_init_5 nw_X2_9 ft_4 rfl ?_
  refine e_dup dX2_init_8 rfl ?_
  rw [hlen]
  refine c_I0v (nc := 4) (ns := 76) (mc := 11) (ms := 100) (N := mX4_init) dX2_init_9 li_X2_11 mo_X4_init (Nat.le_of_ble_eq_true rfl) (Nat.le_of_ble_eq_true rfl) (by decide) (k_linit D (a := a + 1) (gp_s hlen.symm) rfl (by rw [List.length_append, hlen]; rfl) (by omega) (gp_l h3) hf3 (hn.push (fun fs e => by cases e))) (fun h1 hP => ?_)
  obtain ⟨L1, T1, l1, m1, n1⟩ := hP
  have c1 : h1[a]? = some (.inr (2, [x0, x1, x2, x3])) := (m1 a (by omega)).trans (gp_l ho)
  have w1 : ∀ x, x < a → h1[x]? = h[x]? := fun x hx => (m1 x (by omega)).trans (List.getElem?_append_left (by omega))
  refine e_fput dX2_init_12 fl_X2_12_2 ft_2 (fun q hq => Or.inr (by cases hq; exact ⟨rfl, rfl, rfl⟩)) c1 (by show _ < 4; decide) rfl rfl (fun H2 g1 g3 g4 => ?_)
  have n2 := n1.put (by decide) g1 g4
  have L2 := L1.hg n1.rb (hgv (h' := H2) (by omega)) (fun x _ _ => g4 x (by omega))
  have T2 := T1.same (g4 _ (by omega))
  have c2 : H2[a]? = some (.inr (2, [.ref (a + 1), x1, x2, x3])) := g1
  have w2 : ∀ x, x < a → H2[x]? = h[x]? := fun x hx => (g4 x (by omega)).trans (w1 x hx)
  have l2 : H2.length = a + 13 := by omega
  clear g1 g3 g4
  refine e_aload_n dX2_init_15 rfl ?_
  refine e_new (M := mX2_init) (N := 3) (nc := 3) (ns := 73) dX2_init_16 nw_X2_18 ft_5 rfl ?_
  refine e_dup dX2_init_19 rfl ?_
  refine e_bipush (nI 50) dX2_init_20 (by decide) ?_
  refine c_I1v (nc := 2) (ns := 23) (mc := 1) (ms := 50) (N := mX5_init) dX2_init_22 li_X2_20 mo_X5_init (Nat.le_of_ble_eq_true rfl) (Nat.le_of_ble_eq_true rfl) (by decide) (k_rinitN D (gp_s rfl) rfl 50 (by decide) (n2.push (fun fs e => by cases e))) (fun h3 hP => ?_)
  obtain ⟨p1, p2, p3, p4, n3⟩ := hP
  rw [List.length_append, show [(Sum.inr (5, dfl 3 tyX5) : AC)].length = 1 from rfl, l2] at p2 p3 p4
  rw [List.length_append, show [(Sum.inr (5, dfl 3 tyX5) : AC)].length = 1 from rfl, l2] at p1
  rw [l2]
  have k3 : ∀ x, x < a + 13 → h3[x]? = H2[x]? := fun x hx => (p4 x (by omega) (by omega)).trans (List.getElem?_append_left (by omega))
  have L3 := L2.hg n2.rb (hgv (h' := h3) (by omega)) (fun x _ _ => k3 x (by omega))
  have T3 := T2.same (k3 _ (by omega))
  have c3 := (k3 a (by omega)).trans c2
  have w3 : ∀ x, x < a → h3[x]? = h[x]? := fun x hx => (k3 x (by omega)).trans (w2 x hx)
  have q3 : RW h3 (a + 13) 50 (fun _ => 0) (nI 0) (nI 0) := ⟨p1, p2⟩
  refine e_fput dX2_init_25 fl_X2_23_2 ft_2 (fun q hq => Or.inr (by cases hq; exact ⟨rfl, rfl, rfl⟩)) c3 (by show _ < 4; decide) rfl rfl (fun H4 g1 g3 g4 => ?_)
  have n4 := n3.put (by decide) g1 g4
  have L4 := L3.hg n3.rb (hgv (h' := H4) (by omega)) (fun x _ _ => g4 x (by omega))
  have T4 := T3.same (g4 _ (by omega))
  have c4 : H4[a]? = some (.inr (2, [.ref (a + 1), .ref (a + 13), x2, x3])) := g1
  have w4 : ∀ x, x < a → H4[x]? = h[x]? := fun x hx => (g4 x (by omega)).trans (w3 x hx)
  have q4 := q3.same (g4 _ (by omega)) (g4 _ (by omega))
  have l4 : H4.length = a + 15 := by omega
  clear g1 g3 g4
  refine e_aload_n dX2_init_28 rfl ?_
  refine e_new (M := mX2_init) (N := 3) (nc := 1) (ns := 20) dX2_init_29 nw_X2_18 ft_5 rfl ?_
  refine e_dup dX2_init_32 rfl ?_
  refine e_bipush (nI 20) dX2_init_33 (by decide) ?_
  refine c_I1v (nc := 0) (ns := 0) (mc := 1) (ms := 20) (N := mX5_init) dX2_init_35 li_X2_20 mo_X5_init (Nat.le_of_ble_eq_true rfl) (Nat.le_of_ble_eq_true rfl) (by decide) (k_rinitN D (gp_s rfl) rfl 20 (by decide) (n4.push (fun fs e => by cases e))) (fun h5 hP => ?_)
  obtain ⟨p1, p2, p3, p4, n5⟩ := hP
  rw [List.length_append, show [(Sum.inr (5, dfl 3 tyX5) : AC)].length = 1 from rfl, l4] at p2 p3 p4
  rw [List.length_append, show [(Sum.inr (5, dfl 3 tyX5) : AC)].length = 1 from rfl, l4] at p1
  rw [l4]
  have k5 : ∀ x, x < a + 15 → h5[x]? = H4[x]? := fun x hx => (p4 x (by omega) (by omega)).trans (List.getElem?_append_left (by omega))
  have L5 := L4.hg n4.rb (hgv (h' := h5) (by omega)) (fun x _ _ => k5 x (by omega))
  have T5 := T4.same (k5 _ (by omega))
  have c5 := (k5 a (by omega)).trans c4
  have w5 : ∀ x, x < a → h5[x]? = h[x]? := fun x hx => (k5 x (by omega)).trans (w4 x hx)
  have q5 := q4.same (k5 _ (by omega)) (k5 _ (by omega))
  have r5 : RW h5 (a + 15) 20 (fun _ => 0) (nI 0) (nI 0) := ⟨p1, p2⟩
  refine e_fput dX2_init_38 fl_X2_27_2 ft_2 (fun q hq => Or.inr (by cases hq; exact ⟨rfl, rfl, rfl⟩)) c5 (by show _ < 4; decide) rfl rfl (fun H6 g1 g3 g4 => ?_)
  have n6 := n5.put (by decide) g1 g4
  have L6 := L5.hg n5.rb (hgv (h' := H6) (by omega)) (fun x _ _ => g4 x (by omega))
  have T6 := T5.same (g4 _ (by omega))
  have c6 : H6[a]? = some (.inr (2, [.ref (a + 1), .ref (a + 13), .ref (a + 15), x3])) := g1
  have w6 : ∀ x, x < a → H6[x]? = h[x]? := fun x hx => (g4 x (by omega)).trans (w5 x hx)
  have q6 := q5.same (g4 _ (by omega)) (g4 _ (by omega))
  have r6 := r5.same (g4 _ (by omega)) (g4 _ (by omega))
  have l6 : H6.length = a + 17 := by omega
  clear g1 g3 g4
  refine e_aload_n dX2_init_41 rfl ?_
  refine e_iconst (nI 1) dX2_init_42 (by decide) ?_
  refine e_fput dX2_init_43 fl_X2_30_2 ft_2 (fun q hq => Or.inl (by cases hq; rfl)) c6 (by show _ < 4; decide) rfl rfl (fun H7 g1 g3 g4 => ?_)
  have n7 := n6.put (by decide) g1 g4
  have L7 := L6.hg n6.rb (hgv (h' := H7) (by omega)) (fun x _ _ => g4 x (by omega))
  have T7 := T6.same (g4 _ (by omega))
  have q7 := q6.same (g4 _ (by omega)) (g4 _ (by omega))
  have r7 := r6.same (g4 _ (by omega)) (g4 _ (by omega))
  refine e_vret dX2_init_46 rfl (hp _ ⟨⟨g1, L7, by rw [tc_0]; exact T7, ⟨fun _ => 0, nI 0, ?_, fun i hi => ?_⟩, ⟨fun _ => 0, nI 0, ?_, fun i hi => ?_⟩⟩, by omega, fun x hx => (g4 x (by omega)).trans (w6 x hx), n7⟩)
  · rw [N0_z (by omega)]; exact q7
  · have e : tlN N0 = 0 := by unfold tlN; rw [N0_z (by omega)]; rfl
    rw [e] at hi; omega
  · rw [N0_z (by omega)]; exact r7
  · have e : wlN N0 = 0 := by unfold wlN; rw [N0_z (by omega)]; rfl
    rw [e] at hi; omega
