/-- the class's cells at the start -/
def CLZ (h h' : AH) : Prop := h'[11]? = some (.inr (11, clF (nI 0))) ∧ DeskAt h' 12 N0 ∧ DeskAt h' 29 N0 ∧ LandAt h' 46 N0 ∧ LandAt h' 58 N0 ∧ CH h' ∧ RW h' 71 40 (fun _ => 0) (nI 0) (nI 0) ∧ Row0 h' 73 6 (fun _ => 0) ∧ (∀ g, g < 4 → RW h' (74 + 2 * g) 40 (fun _ => 0) (nI 0) (nI 0)) ∧ NR h' ∧ h'.length = 82 ∧ ∀ x, x < 11 → h'[x]? = h[x]?
set_option maxRecDepth 20000 in
theorem k_einit (D : En) {h : AH} {fs : List Value} (ho : h[11]? = some (.inr (11, fs))) (hl : fs.length = 8) (hlen : h.length = 12) {f3 : Nat → Int32} (h3 : h[3]? = some (.inl (6, 6, .inl f3))) (hf3 : ∀ k, k < 6 → f3 k = N0 (7 + k)) (hn : NR h) : Sp D 3 mX11_init [.ref 11] h 70 849 none (fun h' => CLZ h h') := by
  obtain ⟨x0, x1, x2, x3, x4, x5, x6, x7, rfl⟩ : ∃ x0 x1 x2 x3 x4 x5 x6 x7, fs = [x0, x1, x2, x3, x4, x5, x6, x7] := by
    match fs, hl with
    | [x0, x1, x2, x3, x4, x5, x6, x7], _ => exact ⟨x0, x1, x2, x3, x4, x5, x6, x7, rfl⟩
  intro post hp
  show Ev D 3 mX11_init 0 [some (.ref 11), none] [] h 70 849 post
  have c9 := ho
  have n9 := hn
  have l9 := hlen
  have w9 : ∀ x, x < 11 → h[x]? = h[x]? := fun _ _ => rfl
  refine e_aload_n dX11_init_0 rfl ?_
  refine e_objInit dX11_init_1 oi_X11_1 (by decide) (Nat.le_of_ble_eq_true rfl) ?_
  refine e_aload_n dX11_init_4 rfl ?_
  refine e_new (M := mX11_init) (N := 4) (nc := 69) (ns := 845) dX11_init_5 nw_X11_7 ft_2 rfl ?_
  refine e_dup dX11_init_8 rfl ?_
  rw [l9]
  refine c_I0v (nc := 53) (ns := 653) (mc := 16) (ms := 192) (N := mX2_init) dX11_init_9 li_X11_9 mo_X2_init (Nat.le_of_ble_eq_true rfl) (Nat.le_of_ble_eq_true rfl) (by decide) (k_dinit D (a := 12) (gp_s l9.symm) rfl (by rw [List.length_append, l9]; rfl) (by decide) (by decide) (gp_l ((w9 3 (by decide)).trans h3)) hf3 (n9.push (fun fs e => by cases e))) (fun Q1 hP => ?_)
  obtain ⟨D12, l8, m8, n8⟩ := hP
  have F9 : ∀ x, x < 12 → x ≠ 11 → Q1[x]? = _ := fun x hx _ => (m8 x (by omega)).trans (List.getElem?_append_left (by omega))
  have c9 := (m8 11 (by omega)).trans (gp_l c9)
  have w9 : ∀ x, x < 11 → Q1[x]? = h[x]? := fun x hx => (F9 x (by omega) (by omega)).trans (w9 x hx)
  have n9 := n8
  have l9 : Q1.length = 29 := l8
  clear m8 l8 n8 F9
  refine e_fput dX11_init_12 fl_X11_10_11 ft_11 (fun q hq => Or.inr (by cases hq; exact ⟨rfl, rfl, rfl⟩)) c9 (by show _ < 8; decide) rfl rfl (fun P1 g1 g3 g4 => ?_)
  have c9 : P1[11]? = some (.inr (11, [.ref 12, x1, x2, x3, x4, x5, x6, x7])) := g1
  have F9 : ∀ x, x < 29 → x ≠ 11 → P1[x]? = _ := fun x _ hx => g4 x hx
  have D12 := D12.hg n9.rb (hgv (h' := P1) (by omega)) (fun x _ _ => F9 x (by omega) (by omega))
  have w9 : ∀ x, x < 11 → P1[x]? = h[x]? := fun x hx => (g4 x (by omega)).trans (w9 x hx)
  have n9 := n9.put (by decide) g1 g4
  have l9 : P1.length = 29 := by omega
  clear g1 g3 g4 F9
  refine e_aload_n dX11_init_15 rfl ?_
  refine e_new (M := mX11_init) (N := 4) (nc := 52) (ns := 649) dX11_init_16 nw_X11_7 ft_2 rfl ?_
  refine e_dup dX11_init_19 rfl ?_
  rw [l9]
  refine c_I0v (nc := 36) (ns := 457) (mc := 16) (ms := 192) (N := mX2_init) dX11_init_20 li_X11_9 mo_X2_init (Nat.le_of_ble_eq_true rfl) (Nat.le_of_ble_eq_true rfl) (by decide) (k_dinit D (a := 29) (gp_s l9.symm) rfl (by rw [List.length_append, l9]; rfl) (by decide) (by decide) (gp_l ((w9 3 (by decide)).trans h3)) hf3 (n9.push (fun fs e => by cases e))) (fun Q2 hP => ?_)
  obtain ⟨D28, l8, m8, n8⟩ := hP
  have F9 : ∀ x, x < 29 → x ≠ 11 → Q2[x]? = _ := fun x hx _ => (m8 x (by omega)).trans (List.getElem?_append_left (by omega))
  have c9 := (m8 11 (by omega)).trans (gp_l c9)
  have D12 := D12.hg n9.rb (hgv (h' := Q2) (by omega)) (fun x _ _ => F9 x (by omega) (by omega))
  have w9 : ∀ x, x < 11 → Q2[x]? = h[x]? := fun x hx => (F9 x (by omega) (by omega)).trans (w9 x hx)
  have n9 := n8
  have l9 : Q2.length = 46 := l8
  clear m8 l8 n8 F9
  refine e_fput dX11_init_23 fl_X11_16_11 ft_11 (fun q hq => Or.inr (by cases hq; exact ⟨rfl, rfl, rfl⟩)) c9 (by show _ < 8; decide) rfl rfl (fun P2 g1 g3 g4 => ?_)
  have c9 : P2[11]? = some (.inr (11, [.ref 12, .ref 29, x2, x3, x4, x5, x6, x7])) := g1
  have F9 : ∀ x, x < 46 → x ≠ 11 → P2[x]? = _ := fun x _ hx => g4 x hx
  have D12 := D12.hg n9.rb (hgv (h' := P2) (by omega)) (fun x _ _ => F9 x (by omega) (by omega))
  have D28 := D28.hg n9.rb (hgv (h' := P2) (by omega)) (fun x _ _ => F9 x (by omega) (by omega))
  have w9 : ∀ x, x < 11 → P2[x]? = h[x]? := fun x hx => (g4 x (by omega)).trans (w9 x hx)
  have n9 := n9.put (by decide) g1 g4
  have l9 : P2.length = 46 := by omega
  clear g1 g3 g4 F9
  refine e_aload_n dX11_init_26 rfl ?_
  refine e_iconst (nI 0) dX11_init_27 (by decide) ?_
  refine e_fput dX11_init_28 fl_X11_19_11 ft_11 (fun q hq => Or.inl (by cases hq; rfl)) c9 (by show _ < 8; decide) rfl rfl (fun P90 g1 g3 g4 => ?_)
  have c9 : P90[11]? = some (.inr (11, [.ref 12, .ref 29, .int (nI 0), x3, x4, x5, x6, x7])) := g1
  have F9 : ∀ x, x < 46 → x ≠ 11 → P90[x]? = _ := fun x _ hx => g4 x hx
  have D12 := D12.hg n9.rb (hgv (h' := P90) (by omega)) (fun x _ _ => F9 x (by omega) (by omega))
  have D28 := D28.hg n9.rb (hgv (h' := P90) (by omega)) (fun x _ _ => F9 x (by omega) (by omega))
  have w9 : ∀ x, x < 11 → P90[x]? = h[x]? := fun x hx => (g4 x (by omega)).trans (w9 x hx)
  have n9 := n9.put (by decide) g1 g4
  have l9 : P90.length = 46 := by omega
  clear g1 g3 g4 F9
  refine e_aload_n dX11_init_31 rfl ?_
  refine e_new (M := mX11_init) (N := 16) (nc := 35) (ns := 441) dX11_init_32 nw_X11_23 ft_4 rfl ?_
  refine e_dup dX11_init_35 rfl ?_
  rw [l9]
  refine c_I0v (nc := 24) (ns := 341) (mc := 11) (ms := 100) (N := mX4_init) dX11_init_36 li_X11_25 mo_X4_init (Nat.le_of_ble_eq_true rfl) (Nat.le_of_ble_eq_true rfl) (by decide) (k_linit D (a := 46) (gp_s l9.symm) rfl (by rw [List.length_append, l9]; rfl) (by decide) (gp_l ((w9 3 (by decide)).trans h3)) hf3 (n9.push (fun fs e => by cases e))) (fun Q3 hP => ?_)
  obtain ⟨L44, -, l8, m8, n8⟩ := hP
  have F9 : ∀ x, x < 46 → x ≠ 11 → Q3[x]? = _ := fun x hx _ => (m8 x (by omega)).trans (List.getElem?_append_left (by omega))
  have c9 := (m8 11 (by omega)).trans (gp_l c9)
  have D12 := D12.hg n9.rb (hgv (h' := Q3) (by omega)) (fun x _ _ => F9 x (by omega) (by omega))
  have D28 := D28.hg n9.rb (hgv (h' := Q3) (by omega)) (fun x _ _ => F9 x (by omega) (by omega))
  have w9 : ∀ x, x < 11 → Q3[x]? = h[x]? := fun x hx => (F9 x (by omega) (by omega)).trans (w9 x hx)
  have n9 := n8
  have l9 : Q3.length = 58 := l8
  clear m8 l8 n8 F9
  refine e_fput dX11_init_39 fl_X11_26_11 ft_11 (fun q hq => Or.inr (by cases hq; exact ⟨rfl, rfl, rfl⟩)) c9 (by show _ < 8; decide) rfl rfl (fun P3 g1 g3 g4 => ?_)
  have c9 : P3[11]? = some (.inr (11, [.ref 12, .ref 29, .int (nI 0), .ref 46, x4, x5, x6, x7])) := g1
  have F9 : ∀ x, x < 58 → x ≠ 11 → P3[x]? = _ := fun x _ hx => g4 x hx
  have D12 := D12.hg n9.rb (hgv (h' := P3) (by omega)) (fun x _ _ => F9 x (by omega) (by omega))
  have D28 := D28.hg n9.rb (hgv (h' := P3) (by omega)) (fun x _ _ => F9 x (by omega) (by omega))
  have L44 := L44.hg n9.rb (hgv (h' := P3) (by omega)) (fun x _ _ => F9 x (by omega) (by omega))
  have w9 : ∀ x, x < 11 → P3[x]? = h[x]? := fun x hx => (g4 x (by omega)).trans (w9 x hx)
  have n9 := n9.put (by decide) g1 g4
  have l9 : P3.length = 58 := by omega
  clear g1 g3 g4 F9
  refine e_aload_n dX11_init_42 rfl ?_
  refine e_new (M := mX11_init) (N := 16) (nc := 23) (ns := 325) dX11_init_43 nw_X11_23 ft_4 rfl ?_
  refine e_dup dX11_init_46 rfl ?_
  rw [l9]
  refine c_I0v (nc := 12) (ns := 225) (mc := 11) (ms := 100) (N := mX4_init) dX11_init_47 li_X11_25 mo_X4_init (Nat.le_of_ble_eq_true rfl) (Nat.le_of_ble_eq_true rfl) (by decide) (k_linit D (a := 58) (gp_s l9.symm) rfl (by rw [List.length_append, l9]; rfl) (by decide) (gp_l ((w9 3 (by decide)).trans h3)) hf3 (n9.push (fun fs e => by cases e))) (fun Q4 hP => ?_)
  obtain ⟨L55, -, l8, m8, n8⟩ := hP
  have F9 : ∀ x, x < 58 → x ≠ 11 → Q4[x]? = _ := fun x hx _ => (m8 x (by omega)).trans (List.getElem?_append_left (by omega))
  have c9 := (m8 11 (by omega)).trans (gp_l c9)
  have D12 := D12.hg n9.rb (hgv (h' := Q4) (by omega)) (fun x _ _ => F9 x (by omega) (by omega))
  have D28 := D28.hg n9.rb (hgv (h' := Q4) (by omega)) (fun x _ _ => F9 x (by omega) (by omega))
  have L44 := L44.hg n9.rb (hgv (h' := Q4) (by omega)) (fun x _ _ => F9 x (by omega) (by omega))
  have w9 : ∀ x, x < 11 → Q4[x]? = h[x]? := fun x hx => (F9 x (by omega) (by omega)).trans (w9 x hx)
  have n9 := n8
  have l9 : Q4.length = 70 := l8
  clear m8 l8 n8 F9
  refine e_fput dX11_init_50 fl_X11_30_11 ft_11 (fun q hq => Or.inr (by cases hq; exact ⟨rfl, rfl, rfl⟩)) c9 (by show _ < 8; decide) rfl rfl (fun P4 g1 g3 g4 => ?_)
  have c9 : P4[11]? = some (.inr (11, [.ref 12, .ref 29, .int (nI 0), .ref 46, .ref 58, x5, x6, x7])) := g1
  have F9 : ∀ x, x < 70 → x ≠ 11 → P4[x]? = _ := fun x _ hx => g4 x hx
  have D12 := D12.hg n9.rb (hgv (h' := P4) (by omega)) (fun x _ _ => F9 x (by omega) (by omega))
  have D28 := D28.hg n9.rb (hgv (h' := P4) (by omega)) (fun x _ _ => F9 x (by omega) (by omega))
  have L44 := L44.hg n9.rb (hgv (h' := P4) (by omega)) (fun x _ _ => F9 x (by omega) (by omega))
  have L55 := L55.hg n9.rb (hgv (h' := P4) (by omega)) (fun x _ _ => F9 x (by omega) (by omega))
  have w9 : ∀ x, x < 11 → P4[x]? = h[x]? := fun x hx => (g4 x (by omega)).trans (w9 x hx)
  have n9 := n9.put (by decide) g1 g4
  have l9 : P4.length = 70 := by omega
  clear g1 g3 g4 F9
  refine e_aload_n dX11_init_53 rfl ?_
  refine e_iconst (nI 4) dX11_init_54 (by decide) ?_
  refine e_refput (M := mX11_init) (nc := 11) (ns := 221) 3 4 (Or.inr (Or.inr (Or.inl rfl))) dX11_init_55 w_238 dX11_init_58 (by decide) fl_X11_35_11 ft_11 (fun q hq => Or.inr (by cases hq; exact ⟨rfl, rfl, rfl⟩)) c9 (by show _ < 8; decide) rfl rfl (fun S1 g1 g2 g3 g4 => ?_)
  rw [l9] at g1 g2 g3 g4
  have c9 : S1[11]? = some (.inr (11, [.ref 12, .ref 29, .int (nI 0), .ref 46, .ref 58, .ref 70, x6, x7])) := g1
  have D12 := D12.hg n9.rb (hgv (h' := S1) (by omega)) (fun x _ _ => g4 x (by omega) (by omega))
  have D28 := D28.hg n9.rb (hgv (h' := S1) (by omega)) (fun x _ _ => g4 x (by omega) (by omega))
  have L44 := L44.hg n9.rb (hgv (h' := S1) (by omega)) (fun x _ _ => g4 x (by omega) (by omega))
  have L55 := L55.hg n9.rb (hgv (h' := S1) (by omega)) (fun x _ _ => g4 x (by omega) (by omega))
  have w9 : ∀ x, x < 11 → S1[x]? = h[x]? := fun x hx => (g4 x (by omega) (by omega)).trans (w9 x hx)
  have n9 : NR S1 := fun r gs hr => by
    by_cases e1 : r = 11
    · rw [e1, g1] at hr; cases hr
    by_cases e2 : r = 70
    · rw [e2, g2] at hr; cases hr
    have h2 := (List.getElem?_eq_some_iff.mp hr).1
    rw [g4 r (by omega) e1] at hr
    exact n9 r gs hr
  have S66 := g2
  have l9 : S1.length = 71 := g3
  clear g1 g2 g3 g4
  refine e_aload_n dX11_init_61 rfl ?_
  refine e_new (M := mX11_init) (N := 3) (nc := 10) (ns := 218) dX11_init_62 nw_X11_33 ft_5 rfl ?_
  refine e_dup dX11_init_65 rfl ?_
  refine e_bipush (nI 40) dX11_init_66 (by decide) ?_
  refine c_I1v (nc := 9) (ns := 178) (mc := 1) (ms := 40) (N := mX5_init) dX11_init_68 li_X11_39 mo_X5_init (Nat.le_of_ble_eq_true rfl) (Nat.le_of_ble_eq_true rfl) (by decide) (k_rinitN D (gp_s rfl) rfl 40 (by decide) (n9.push (fun fs e => by cases e))) (fun Q5 hP => ?_)
  obtain ⟨p1, p2, p3, p4, n8⟩ := hP
  rw [List.length_append, show [(Sum.inr (5, dfl 3 tyX5) : AC)].length = 1 from rfl, l9] at p2 p3 p4
  rw [List.length_append, show [(Sum.inr (5, dfl 3 tyX5) : AC)].length = 1 from rfl, l9] at p1
  rw [l9]
  have F9 : ∀ x, x < 71 → x ≠ 11 → Q5[x]? = _ := fun x hx _ => (p4 x (by omega) (by omega)).trans (List.getElem?_append_left (by omega))
  have c9 := (p4 11 (by decide) (by decide)).trans (gp_l c9)
  have D12 := D12.hg n9.rb (hgv (h' := Q5) (by omega)) (fun x _ _ => F9 x (by omega) (by omega))
  have D28 := D28.hg n9.rb (hgv (h' := Q5) (by omega)) (fun x _ _ => F9 x (by omega) (by omega))
  have L44 := L44.hg n9.rb (hgv (h' := Q5) (by omega)) (fun x _ _ => F9 x (by omega) (by omega))
  have L55 := L55.hg n9.rb (hgv (h' := Q5) (by omega)) (fun x _ _ => F9 x (by omega) (by omega))
  have S66 := (F9 _ (by decide) (by decide)).trans S66
  have w9 : ∀ x, x < 11 → Q5[x]? = h[x]? := fun x hx => (F9 x (by omega) (by omega)).trans (w9 x hx)
  have n9 := n8
  have T67 : RW Q5 71 40 (fun _ => 0) (nI 0) (nI 0) := ⟨p1, p2⟩
  have l9 : Q5.length = 73 := p3
  clear p1 p2 p3 p4 n8 F9
  refine e_fput dX11_init_71 fl_X11_42_11 ft_11 (fun q hq => Or.inr (by cases hq; exact ⟨rfl, rfl, rfl⟩)) c9 (by show _ < 8; decide) rfl rfl (fun P5 g1 g3 g4 => ?_)
  have c9 : P5[11]? = some (.inr (11, [.ref 12, .ref 29, .int (nI 0), .ref 46, .ref 58, .ref 70, .ref 71, x7])) := g1
  have F9 : ∀ x, x < 73 → x ≠ 11 → P5[x]? = _ := fun x _ hx => g4 x hx
  have D12 := D12.hg n9.rb (hgv (h' := P5) (by omega)) (fun x _ _ => F9 x (by omega) (by omega))
  have D28 := D28.hg n9.rb (hgv (h' := P5) (by omega)) (fun x _ _ => F9 x (by omega) (by omega))
  have L44 := L44.hg n9.rb (hgv (h' := P5) (by omega)) (fun x _ _ => F9 x (by omega) (by omega))
  have L55 := L55.hg n9.rb (hgv (h' := P5) (by omega)) (fun x _ _ => F9 x (by omega) (by omega))
  have S66 := (F9 _ (by decide) (by decide)).trans S66
  have T67 := T67.same (F9 _ (by decide) (by decide)) (F9 _ (by decide) (by decide))
  have w9 : ∀ x, x < 11 → P5[x]? = h[x]? := fun x hx => (g4 x (by omega)).trans (w9 x hx)
  have n9 := n9.put (by decide) g1 g4
  have l9 : P5.length = 73 := by omega
  clear g1 g3 g4 F9
  refine e_aload_n dX11_init_74 rfl ?_
  refine e_bipush (nI 6) dX11_init_75 (by decide) ?_
  refine e_rowput (M := mX11_init) (nc := 8) (ns := 172) 6 dX11_init_77 dX11_init_79 (by decide) fl_X11_46_11 ft_11 (fun q hq => Or.inr (by cases hq; exact ⟨rfl, rfl, rfl⟩)) c9 (by show _ < 8; decide) rfl rfl (fun S2 g1 g2 g3 g4 => ?_)
  rw [l9] at g1 g2 g3 g4
  have c9 : S2[11]? = some (.inr (11, [.ref 12, .ref 29, .int (nI 0), .ref 46, .ref 58, .ref 70, .ref 71, .ref 73])) := g1
  have D12 := D12.hg n9.rb (hgv (h' := S2) (by omega)) (fun x _ _ => g4 x (by omega) (by omega))
  have D28 := D28.hg n9.rb (hgv (h' := S2) (by omega)) (fun x _ _ => g4 x (by omega) (by omega))
  have L44 := L44.hg n9.rb (hgv (h' := S2) (by omega)) (fun x _ _ => g4 x (by omega) (by omega))
  have L55 := L55.hg n9.rb (hgv (h' := S2) (by omega)) (fun x _ _ => g4 x (by omega) (by omega))
  have S66 := (g4 _ (by decide) (by decide)).trans S66
  have T67 := T67.same (g4 _ (by decide) (by decide)) (g4 _ (by decide) (by decide))
  have w9 : ∀ x, x < 11 → S2[x]? = h[x]? := fun x hx => (g4 x (by omega) (by omega)).trans (w9 x hx)
  have n9 : NR S2 := fun r gs hr => by
    by_cases e1 : r = 11
    · rw [e1, g1] at hr; cases hr
    by_cases e2 : r = 73
    · rw [e2, g2] at hr; cases hr
    have h2 := (List.getElem?_eq_some_iff.mp hr).1
    rw [g4 r (by omega) e1] at hr
    exact n9 r gs hr
  have E69 := g2
  have l9 : S2.length = 74 := g3
  clear g1 g2 g3 g4
  refine e_iconst (nI 0) dX11_init_82 (by decide) ?_
  refine e_istore_n dX11_init_83 (by decide) ?_
  refine e_iload_n dX11_init_84 rfl ?_
  refine e_aload_n dX11_init_85 rfl ?_
  refine e_get dX11_init_86 fl_X11_35_11 c9 rfl ?_
  refine e_alenQ dX11_init_89 S66 (Or.inr (Or.inr (Or.inl rfl))) ?_
  refine e_top (nI 4) rfl ?_
  refine e_icmp_geN 114 dX11_init_90 (by decide) (by decide) (by decide) (fun hc => absurd hc (by decide)) (fun hc => ?_)
  refine e_aload_n dX11_init_93 rfl ?_
  refine e_get dX11_init_94 fl_X11_35_11 c9 rfl ?_
  refine e_iload_n dX11_init_97 rfl ?_
  refine e_new (M := mX11_init) (N := 3) (nc := 7) (ns := 169) dX11_init_98 nw_X11_33 ft_5 rfl ?_
  refine e_dup dX11_init_101 rfl ?_
  refine e_bipush (nI 40) dX11_init_102 (by decide) ?_
  refine c_I1v (nc := 6) (ns := 129) (mc := 1) (ms := 40) (N := mX5_init) dX11_init_104 li_X11_39 mo_X5_init (Nat.le_of_ble_eq_true rfl) (Nat.le_of_ble_eq_true rfl) (by decide) (k_rinitN D (gp_s rfl) rfl 40 (by decide) (n9.push (fun fs e => by cases e))) (fun Q6 hP => ?_)
  obtain ⟨p1, p2, p3, p4, n8⟩ := hP
  rw [List.length_append, show [(Sum.inr (5, dfl 3 tyX5) : AC)].length = 1 from rfl, l9] at p2 p3 p4
  rw [List.length_append, show [(Sum.inr (5, dfl 3 tyX5) : AC)].length = 1 from rfl, l9] at p1
  rw [l9]
  have F9 : ∀ x, x < 74 → x ≠ 11 → Q6[x]? = _ := fun x hx _ => (p4 x (by omega) (by omega)).trans (List.getElem?_append_left (by omega))
  have c9 := (p4 11 (by decide) (by decide)).trans (gp_l c9)
  have D12 := D12.hg n9.rb (hgv (h' := Q6) (by omega)) (fun x _ _ => F9 x (by omega) (by omega))
  have D28 := D28.hg n9.rb (hgv (h' := Q6) (by omega)) (fun x _ _ => F9 x (by omega) (by omega))
  have L44 := L44.hg n9.rb (hgv (h' := Q6) (by omega)) (fun x _ _ => F9 x (by omega) (by omega))
  have L55 := L55.hg n9.rb (hgv (h' := Q6) (by omega)) (fun x _ _ => F9 x (by omega) (by omega))
  have S66 := (F9 _ (by decide) (by decide)).trans S66
  have T67 := T67.same (F9 _ (by decide) (by decide)) (F9 _ (by decide) (by decide))
  have E69 := (F9 _ (by decide) (by decide)).trans E69
  have w9 : ∀ x, x < 11 → Q6[x]? = h[x]? := fun x hx => (F9 x (by omega) (by omega)).trans (w9 x hx)
  have n9 := n8
  have G0 : RW Q6 74 40 (fun _ => 0) (nI 0) (nI 0) := ⟨p1, p2⟩
  have l9 : Q6.length = 76 := p3
  clear p1 p2 p3 p4 n8 F9
  refine e_aas 0 dX11_init_107 S66 (Or.inr (Or.inr (Or.inl rfl))) (Or.inl ⟨5, _, G0.1, ⟨_, _, _, rfl, Or.inl rfl⟩⟩) rfl (by decide) (by decide) (fun T0 k1_0 k2_0 => ?_)
  obtain ⟨U0, hU0⟩ : ∃ z, z = Q6.set 70 (.inl (3, 4, .inr (.inr (.inr (.inr T0))))) := ⟨_, rfl⟩
  have F8 : ∀ x, x ≠ 70 → U0[x]? = Q6[x]? := fun x hx => by rw [hU0]; exact List.getElem?_set_ne (fun q => hx q.symm)
  have S66 : U0[70]? = some (.inl (3, 4, .inr (.inr (.inr (.inr T0))))) := by rw [hU0]; exact getself S66
  have c9 := (F8 11 (by decide)).trans c9
  have D12 := D12.hg n9.rb (hgv (h' := U0) (by omega)) (fun x _ _ => F8 x (by omega))
  have D28 := D28.hg n9.rb (hgv (h' := U0) (by omega)) (fun x _ _ => F8 x (by omega))
  have L44 := L44.hg n9.rb (hgv (h' := U0) (by omega)) (fun x _ _ => F8 x (by omega))
  have L55 := L55.hg n9.rb (hgv (h' := U0) (by omega)) (fun x _ _ => F8 x (by omega))
  have T67 := T67.same (F8 _ (by decide)) (F8 _ (by decide))
  have E69 := (F8 _ (by decide)).trans E69
  have G0 := G0.same (F8 _ (by decide)) (F8 _ (by decide))
  have w9 : ∀ x, x < 11 → U0[x]? = h[x]? := fun x hx => (F8 x (by omega)).trans (w9 x hx)
  have n9 : NR U0 := fun r gs hr => by
    by_cases e : r = 70
    · rw [e, S66] at hr; cases hr
    · rw [F8 r e] at hr; exact n9 r gs hr
  have l9 : U0.length = 76 := by rw [hU0, List.length_set]; exact l9
  rw [← hU0]
  clear F8
  refine e_iincN 1 dX11_init_108 rfl (by decide) (nI_add 0 1) ?_
  refine e_goto 84 dX11_init_111 (by decide) ?_
  refine e_iload_n dX11_init_84 rfl ?_
  refine e_aload_n dX11_init_85 rfl ?_
  refine e_get dX11_init_86 fl_X11_35_11 c9 rfl ?_
  refine e_alenQ dX11_init_89 S66 (Or.inr (Or.inr (Or.inl rfl))) ?_
  refine e_top (nI 4) rfl ?_
  refine e_icmp_geN 114 dX11_init_90 (by decide) (by decide) (by decide) (fun hc => absurd hc (by decide)) (fun hc => ?_)
  refine e_aload_n dX11_init_93 rfl ?_
  refine e_get dX11_init_94 fl_X11_35_11 c9 rfl ?_
  refine e_iload_n dX11_init_97 rfl ?_
  refine e_new (M := mX11_init) (N := 3) (nc := 5) (ns := 126) dX11_init_98 nw_X11_33 ft_5 rfl ?_
  refine e_dup dX11_init_101 rfl ?_
  refine e_bipush (nI 40) dX11_init_102 (by decide) ?_
  refine c_I1v (nc := 4) (ns := 86) (mc := 1) (ms := 40) (N := mX5_init) dX11_init_104 li_X11_39 mo_X5_init (Nat.le_of_ble_eq_true rfl) (Nat.le_of_ble_eq_true rfl) (by decide) (k_rinitN D (gp_s rfl) rfl 40 (by decide) (n9.push (fun fs e => by cases e))) (fun Q7 hP => ?_)
  obtain ⟨p1, p2, p3, p4, n8⟩ := hP
  rw [List.length_append, show [(Sum.inr (5, dfl 3 tyX5) : AC)].length = 1 from rfl, l9] at p2 p3 p4
  rw [List.length_append, show [(Sum.inr (5, dfl 3 tyX5) : AC)].length = 1 from rfl, l9] at p1
  rw [l9]
  have F9 : ∀ x, x < 76 → x ≠ 11 → Q7[x]? = _ := fun x hx _ => (p4 x (by omega) (by omega)).trans (List.getElem?_append_left (by omega))
  have c9 := (p4 11 (by decide) (by decide)).trans (gp_l c9)
  have D12 := D12.hg n9.rb (hgv (h' := Q7) (by omega)) (fun x _ _ => F9 x (by omega) (by omega))
  have D28 := D28.hg n9.rb (hgv (h' := Q7) (by omega)) (fun x _ _ => F9 x (by omega) (by omega))
  have L44 := L44.hg n9.rb (hgv (h' := Q7) (by omega)) (fun x _ _ => F9 x (by omega) (by omega))
  have L55 := L55.hg n9.rb (hgv (h' := Q7) (by omega)) (fun x _ _ => F9 x (by omega) (by omega))
  have S66 := (F9 _ (by decide) (by decide)).trans S66
  have T67 := T67.same (F9 _ (by decide) (by decide)) (F9 _ (by decide) (by decide))
  have E69 := (F9 _ (by decide) (by decide)).trans E69
  have G0 := G0.same (F9 _ (by decide) (by decide)) (F9 _ (by decide) (by decide))
  have w9 : ∀ x, x < 11 → Q7[x]? = h[x]? := fun x hx => (F9 x (by omega) (by omega)).trans (w9 x hx)
  have n9 := n8
  have G1 : RW Q7 76 40 (fun _ => 0) (nI 0) (nI 0) := ⟨p1, p2⟩
  have l9 : Q7.length = 78 := p3
  clear p1 p2 p3 p4 n8 F9
  refine e_aas 1 dX11_init_107 S66 (Or.inr (Or.inr (Or.inl rfl))) (Or.inl ⟨5, _, G1.1, ⟨_, _, _, rfl, Or.inl rfl⟩⟩) rfl (by decide) (by decide) (fun T1 k1_1 k2_1 => ?_)
  obtain ⟨U1, hU1⟩ : ∃ z, z = Q7.set 70 (.inl (3, 4, .inr (.inr (.inr (.inr T1))))) := ⟨_, rfl⟩
  have F8 : ∀ x, x ≠ 70 → U1[x]? = Q7[x]? := fun x hx => by rw [hU1]; exact List.getElem?_set_ne (fun q => hx q.symm)
  have S66 : U1[70]? = some (.inl (3, 4, .inr (.inr (.inr (.inr T1))))) := by rw [hU1]; exact getself S66
  have c9 := (F8 11 (by decide)).trans c9
  have D12 := D12.hg n9.rb (hgv (h' := U1) (by omega)) (fun x _ _ => F8 x (by omega))
  have D28 := D28.hg n9.rb (hgv (h' := U1) (by omega)) (fun x _ _ => F8 x (by omega))
  have L44 := L44.hg n9.rb (hgv (h' := U1) (by omega)) (fun x _ _ => F8 x (by omega))
  have L55 := L55.hg n9.rb (hgv (h' := U1) (by omega)) (fun x _ _ => F8 x (by omega))
  have T67 := T67.same (F8 _ (by decide)) (F8 _ (by decide))
  have E69 := (F8 _ (by decide)).trans E69
  have G0 := G0.same (F8 _ (by decide)) (F8 _ (by decide))
  have G1 := G1.same (F8 _ (by decide)) (F8 _ (by decide))
  have w9 : ∀ x, x < 11 → U1[x]? = h[x]? := fun x hx => (F8 x (by omega)).trans (w9 x hx)
  have n9 : NR U1 := fun r gs hr => by
    by_cases e : r = 70
    · rw [e, S66] at hr; cases hr
    · rw [F8 r e] at hr; exact n9 r gs hr
  have l9 : U1.length = 78 := by rw [hU1, List.length_set]; exact l9
  rw [← hU1]
  clear F8
  refine e_iincN 2 dX11_init_108 rfl (by decide) (nI_add 1 1) ?_
  refine e_goto 84 dX11_init_111 (by decide) ?_
  refine e_iload_n dX11_init_84 rfl ?_
  refine e_aload_n dX11_init_85 rfl ?_
  refine e_get dX11_init_86 fl_X11_35_11 c9 rfl ?_
  refine e_alenQ dX11_init_89 S66 (Or.inr (Or.inr (Or.inl rfl))) ?_
  refine e_top (nI 4) rfl ?_
  refine e_icmp_geN 114 dX11_init_90 (by decide) (by decide) (by decide) (fun hc => absurd hc (by decide)) (fun hc => ?_)
  refine e_aload_n dX11_init_93 rfl ?_
  refine e_get dX11_init_94 fl_X11_35_11 c9 rfl ?_
  refine e_iload_n dX11_init_97 rfl ?_
  refine e_new (M := mX11_init) (N := 3) (nc := 3) (ns := 83) dX11_init_98 nw_X11_33 ft_5 rfl ?_
  refine e_dup dX11_init_101 rfl ?_
  refine e_bipush (nI 40) dX11_init_102 (by decide) ?_
  refine c_I1v (nc := 2) (ns := 43) (mc := 1) (ms := 40) (N := mX5_init) dX11_init_104 li_X11_39 mo_X5_init (Nat.le_of_ble_eq_true rfl) (Nat.le_of_ble_eq_true rfl) (by decide) (k_rinitN D (gp_s rfl) rfl 40 (by decide) (n9.push (fun fs e => by cases e))) (fun Q8 hP => ?_)
  obtain ⟨p1, p2, p3, p4, n8⟩ := hP
  rw [List.length_append, show [(Sum.inr (5, dfl 3 tyX5) : AC)].length = 1 from rfl, l9] at p2 p3 p4
  rw [List.length_append, show [(Sum.inr (5, dfl 3 tyX5) : AC)].length = 1 from rfl, l9] at p1
  rw [l9]
  have F9 : ∀ x, x < 78 → x ≠ 11 → Q8[x]? = _ := fun x hx _ => (p4 x (by omega) (by omega)).trans (List.getElem?_append_left (by omega))
  have c9 := (p4 11 (by decide) (by decide)).trans (gp_l c9)
  have D12 := D12.hg n9.rb (hgv (h' := Q8) (by omega)) (fun x _ _ => F9 x (by omega) (by omega))
  have D28 := D28.hg n9.rb (hgv (h' := Q8) (by omega)) (fun x _ _ => F9 x (by omega) (by omega))
  have L44 := L44.hg n9.rb (hgv (h' := Q8) (by omega)) (fun x _ _ => F9 x (by omega) (by omega))
  have L55 := L55.hg n9.rb (hgv (h' := Q8) (by omega)) (fun x _ _ => F9 x (by omega) (by omega))
  have S66 := (F9 _ (by decide) (by decide)).trans S66
  have T67 := T67.same (F9 _ (by decide) (by decide)) (F9 _ (by decide) (by decide))
  have E69 := (F9 _ (by decide) (by decide)).trans E69
  have G0 := G0.same (F9 _ (by decide) (by decide)) (F9 _ (by decide) (by decide))
  have G1 := G1.same (F9 _ (by decide) (by decide)) (F9 _ (by decide) (by decide))
  have w9 : ∀ x, x < 11 → Q8[x]? = h[x]? := fun x hx => (F9 x (by omega) (by omega)).trans (w9 x hx)
  have n9 := n8
  have G2 : RW Q8 78 40 (fun _ => 0) (nI 0) (nI 0) := ⟨p1, p2⟩
  have l9 : Q8.length = 80 := p3
  clear p1 p2 p3 p4 n8 F9
  refine e_aas 2 dX11_init_107 S66 (Or.inr (Or.inr (Or.inl rfl))) (Or.inl ⟨5, _, G2.1, ⟨_, _, _, rfl, Or.inl rfl⟩⟩) rfl (by decide) (by decide) (fun T2 k1_2 k2_2 => ?_)
  obtain ⟨U2, hU2⟩ : ∃ z, z = Q8.set 70 (.inl (3, 4, .inr (.inr (.inr (.inr T2))))) := ⟨_, rfl⟩
  have F8 : ∀ x, x ≠ 70 → U2[x]? = Q8[x]? := fun x hx => by rw [hU2]; exact List.getElem?_set_ne (fun q => hx q.symm)
  have S66 : U2[70]? = some (.inl (3, 4, .inr (.inr (.inr (.inr T2))))) := by rw [hU2]; exact getself S66
  have c9 := (F8 11 (by decide)).trans c9
  have D12 := D12.hg n9.rb (hgv (h' := U2) (by omega)) (fun x _ _ => F8 x (by omega))
  have D28 := D28.hg n9.rb (hgv (h' := U2) (by omega)) (fun x _ _ => F8 x (by omega))
  have L44 := L44.hg n9.rb (hgv (h' := U2) (by omega)) (fun x _ _ => F8 x (by omega))
  have L55 := L55.hg n9.rb (hgv (h' := U2) (by omega)) (fun x _ _ => F8 x (by omega))
  have T67 := T67.same (F8 _ (by decide)) (F8 _ (by decide))
  have E69 := (F8 _ (by decide)).trans E69
  have G0 := G0.same (F8 _ (by decide)) (F8 _ (by decide))
  have G1 := G1.same (F8 _ (by decide)) (F8 _ (by decide))
  have G2 := G2.same (F8 _ (by decide)) (F8 _ (by decide))
  have w9 : ∀ x, x < 11 → U2[x]? = h[x]? := fun x hx => (F8 x (by omega)).trans (w9 x hx)
  have n9 : NR U2 := fun r gs hr => by
    by_cases e : r = 70
    · rw [e, S66] at hr; cases hr
    · rw [F8 r e] at hr; exact n9 r gs hr
  have l9 : U2.length = 80 := by rw [hU2, List.length_set]; exact l9
  rw [← hU2]
  clear F8
  refine e_iincN 3 dX11_init_108 rfl (by decide) (nI_add 2 1) ?_
  refine e_goto 84 dX11_init_111 (by decide) ?_
  refine e_iload_n dX11_init_84 rfl ?_
  refine e_aload_n dX11_init_85 rfl ?_
  refine e_get dX11_init_86 fl_X11_35_11 c9 rfl ?_
  refine e_alenQ dX11_init_89 S66 (Or.inr (Or.inr (Or.inl rfl))) ?_
  refine e_top (nI 4) rfl ?_
  refine e_icmp_geN 114 dX11_init_90 (by decide) (by decide) (by decide) (fun hc => absurd hc (by decide)) (fun hc => ?_)
  refine e_aload_n dX11_init_93 rfl ?_
  refine e_get dX11_init_94 fl_X11_35_11 c9 rfl ?_
  refine e_iload_n dX11_init_97 rfl ?_
  refine e_new (M := mX11_init) (N := 3) (nc := 1) (ns := 40) dX11_init_98 nw_X11_33 ft_5 rfl ?_
  refine e_dup dX11_init_101 rfl ?_
  refine e_bipush (nI 40) dX11_init_102 (by decide) ?_
  refine c_I1v (nc := 0) (ns := 0) (mc := 1) (ms := 40) (N := mX5_init) dX11_init_104 li_X11_39 mo_X5_init (Nat.le_of_ble_eq_true rfl) (Nat.le_of_ble_eq_true rfl) (by decide) (k_rinitN D (gp_s rfl) rfl 40 (by decide) (n9.push (fun fs e => by cases e))) (fun Q9 hP => ?_)
  obtain ⟨p1, p2, p3, p4, n8⟩ := hP
  rw [List.length_append, show [(Sum.inr (5, dfl 3 tyX5) : AC)].length = 1 from rfl, l9] at p2 p3 p4
  rw [List.length_append, show [(Sum.inr (5, dfl 3 tyX5) : AC)].length = 1 from rfl, l9] at p1
  rw [l9]
  have F9 : ∀ x, x < 80 → x ≠ 11 → Q9[x]? = _ := fun x hx _ => (p4 x (by omega) (by omega)).trans (List.getElem?_append_left (by omega))
  have c9 := (p4 11 (by decide) (by decide)).trans (gp_l c9)
  have D12 := D12.hg n9.rb (hgv (h' := Q9) (by omega)) (fun x _ _ => F9 x (by omega) (by omega))
  have D28 := D28.hg n9.rb (hgv (h' := Q9) (by omega)) (fun x _ _ => F9 x (by omega) (by omega))
  have L44 := L44.hg n9.rb (hgv (h' := Q9) (by omega)) (fun x _ _ => F9 x (by omega) (by omega))
  have L55 := L55.hg n9.rb (hgv (h' := Q9) (by omega)) (fun x _ _ => F9 x (by omega) (by omega))
  have S66 := (F9 _ (by decide) (by decide)).trans S66
  have T67 := T67.same (F9 _ (by decide) (by decide)) (F9 _ (by decide) (by decide))
  have E69 := (F9 _ (by decide) (by decide)).trans E69
  have G0 := G0.same (F9 _ (by decide) (by decide)) (F9 _ (by decide) (by decide))
  have G1 := G1.same (F9 _ (by decide) (by decide)) (F9 _ (by decide) (by decide))
  have G2 := G2.same (F9 _ (by decide) (by decide)) (F9 _ (by decide) (by decide))
  have w9 : ∀ x, x < 11 → Q9[x]? = h[x]? := fun x hx => (F9 x (by omega) (by omega)).trans (w9 x hx)
  have n9 := n8
  have G3 : RW Q9 80 40 (fun _ => 0) (nI 0) (nI 0) := ⟨p1, p2⟩
  have l9 : Q9.length = 82 := p3
  clear p1 p2 p3 p4 n8 F9
  refine e_aas 3 dX11_init_107 S66 (Or.inr (Or.inr (Or.inl rfl))) (Or.inl ⟨5, _, G3.1, ⟨_, _, _, rfl, Or.inl rfl⟩⟩) rfl (by decide) (by decide) (fun T3 k1_3 k2_3 => ?_)
  obtain ⟨U3, hU3⟩ : ∃ z, z = Q9.set 70 (.inl (3, 4, .inr (.inr (.inr (.inr T3))))) := ⟨_, rfl⟩
  have F8 : ∀ x, x ≠ 70 → U3[x]? = Q9[x]? := fun x hx => by rw [hU3]; exact List.getElem?_set_ne (fun q => hx q.symm)
  have S66 : U3[70]? = some (.inl (3, 4, .inr (.inr (.inr (.inr T3))))) := by rw [hU3]; exact getself S66
  have c9 := (F8 11 (by decide)).trans c9
  have D12 := D12.hg n9.rb (hgv (h' := U3) (by omega)) (fun x _ _ => F8 x (by omega))
  have D28 := D28.hg n9.rb (hgv (h' := U3) (by omega)) (fun x _ _ => F8 x (by omega))
  have L44 := L44.hg n9.rb (hgv (h' := U3) (by omega)) (fun x _ _ => F8 x (by omega))
  have L55 := L55.hg n9.rb (hgv (h' := U3) (by omega)) (fun x _ _ => F8 x (by omega))
  have T67 := T67.same (F8 _ (by decide)) (F8 _ (by decide))
  have E69 := (F8 _ (by decide)).trans E69
  have G0 := G0.same (F8 _ (by decide)) (F8 _ (by decide))
  have G1 := G1.same (F8 _ (by decide)) (F8 _ (by decide))
  have G2 := G2.same (F8 _ (by decide)) (F8 _ (by decide))
  have G3 := G3.same (F8 _ (by decide)) (F8 _ (by decide))
  have w9 : ∀ x, x < 11 → U3[x]? = h[x]? := fun x hx => (F8 x (by omega)).trans (w9 x hx)
  have n9 : NR U3 := fun r gs hr => by
    by_cases e : r = 70
    · rw [e, S66] at hr; cases hr
    · rw [F8 r e] at hr; exact n9 r gs hr
  have l9 : U3.length = 82 := by rw [hU3, List.length_set]; exact l9
  rw [← hU3]
  clear F8
  refine e_iincN 4 dX11_init_108 rfl (by decide) (nI_add 3 1) ?_
  refine e_goto 84 dX11_init_111 (by decide) ?_
  refine e_iload_n dX11_init_84 rfl ?_
  refine e_aload_n dX11_init_85 rfl ?_
  refine e_get dX11_init_86 fl_X11_35_11 c9 rfl ?_
  refine e_alenQ dX11_init_89 S66 (Or.inr (Or.inr (Or.inl rfl))) ?_
  refine e_top (nI 4) rfl ?_
  refine e_icmp_geN 114 dX11_init_90 (by decide) (by decide) (by decide) (fun hc => ?_) (fun hc => absurd hc (by decide))
  refine e_vret dX11_init_114 rfl (hp _ ⟨c9, D12, D28, L44, L55, ⟨T3, S66, fun g hg => ?_⟩, T67, E69, fun g hg => ?_, n9, l9, w9⟩)
  · rcases (show g = 0 ∨ g = 1 ∨ g = 2 ∨ g = 3 by omega) with rfl | rfl | rfl | rfl
    · rw [k2_3 0 (by decide), k2_2 0 (by decide), k2_1 0 (by decide), k1_0]
    · rw [k2_3 1 (by decide), k2_2 1 (by decide), k1_1]
    · rw [k2_3 2 (by decide), k1_2]
    · rw [k1_3]
  · rcases (show g = 0 ∨ g = 1 ∨ g = 2 ∨ g = 3 by omega) with rfl | rfl | rfl | rfl
    · exact G0
    · exact G1
    · exact G2
    · exact G3
