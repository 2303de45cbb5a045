theorem max0 (n : Nat) (hn : n < 2 ^ 31) : (if nI 0 < nI n then nI n else nI 0) = nI n := by
  by_cases q : nI 0 < nI n
  · rw [if_pos q]
  · rw [if_neg q]
    rw [nI_ltI (by decide) hn] at q
    rw [show n = 0 by omega]
theorem gp_l {h : AH} {c : AC} {x : Nat} {v : AC} (hx : h[x]? = some v) : (h ++ [c])[x]? = some v := by
  rw [List.getElem?_append_left (List.getElem?_eq_some_iff.mp hx).1]; exact hx
theorem gp_s {h : AH} {c : AC} {x : Nat} (hx : x = h.length) : (h ++ [c])[x]? = some c := by rw [hx, List.getElem?_concat_length]
set_option maxRecDepth 20000 in
theorem k_rinit (D : En) {h : AH} {a : Nat} {fs : List Value} (ho : h[a]? = some (.inr (5, fs))) (hl : fs.length = 3) (n : Nat) (hn : n ≤ 1000) : Sp D 1 mX5_init [.ref a, .int (nI n)] h 1 n none (fun h' => h'[a]? = some (.inr (5, [.ref h.length, .int (nI 0), .int (nI 0)])) ∧ Row0 h' h.length n (fun _ => 0) ∧ h'.length = h.length + 1 ∧ ∀ x, x ≠ a → x < h.length → h'[x]? = h[x]?) := by
  obtain ⟨f1, f2, f3, rfl⟩ : ∃ x1 x2 x3, fs = [x1, x2, x3] := by
    match fs, hl with
    | [x1, x2, x3], _ => exact ⟨x1, x2, x3, rfl⟩
  have hal : a < h.length := (List.getElem?_eq_some_iff.mp ho).1
  intro post hp
  show Ev D 1 mX5_init 0 [some (.ref a), some (.int (nI n))] [] h 1 n post
  refine e_aload_n dX5_init_0 rfl ?_
  refine e_objInit dX5_init_1 oi_X5_1 (by decide) (Nat.le_of_ble_eq_true rfl) ?_
  refine e_aload_n dX5_init_4 rfl ?_
  refine e_iconst (nI 0) dX5_init_5 (by decide) ?_
  refine e_put dX5_init_6 fl_X5_7_5 ft_5 (fun q hq => Or.inl (by cases hq; rfl)) ho (by show _ < 3; decide) rfl rfl ?_
  have h1 := getself (c := .inr (5, [f1, .int (nI 0), f3])) ho
  refine e_aload_n dX5_init_9 rfl ?_
  refine e_iconst (nI 0) dX5_init_10 (by decide) ?_
  refine e_put dX5_init_11 fl_X5_13_5 ft_5 (fun q hq => Or.inl (by cases hq; rfl)) h1 (by show _ < 3; decide) rfl rfl ?_
  have h2 := getself (c := .inr (5, [f1, .int (nI 0), .int (nI 0)])) h1
  change Ev D 1 mX5_init 14 [some (.ref a), some (.int (nI n))] [] ((h.set a (.inr (5, [f1, .int (nI 0), f3]))).set a (.inr (5, [f1, .int (nI 0), .int (nI 0)]))) 1 n post
  rw [set_set] at h2 ⊢
  refine e_aload_n dX5_init_14 rfl ?_
  refine e_iconst (nI 0) dX5_init_15 (by decide) ?_
  refine e_iload_n dX5_init_16 rfl ?_
  refine e_mmax dX5_init_17 mw_X5_16 (by decide) (Nat.le_of_ble_eq_true rfl) ?_
  refine e_top (nI n) (max0 n (by omega)) ?_
  have el : (h.set a (.inr (5, [f1, .int (nI 0), .int (nI 0)]))).length = h.length := List.length_set ..
  refine Ev.more (nc := 0 + 1) (ns := 0 + n) ?_ (by omega) (by omega)
  refine e_newarray (M := mX5_init) n dX5_init_20 w_194 rfl hn ?_
  refine e_put dX5_init_22 fl_X5_22_5 ft_5 (fun q hq => Or.inr (by cases hq; exact ⟨rfl, rfl, rfl⟩)) (gp_l h2) (by show _ < 3; decide) rfl rfl ?_
  refine e_vret dX5_init_25 rfl (hp _ ⟨?_, ?_, ?_, ?_⟩)
  · rw [getself (gp_l h2), el]; rfl
  · exact (List.getElem?_set_ne (by omega)).trans (gp_s el.symm)
  · rw [List.length_set, List.length_append, el]; rfl
  · intro x e1 e2
    rw [List.getElem?_set_ne (fun z => e1 z.symm), List.getElem?_append_left (by omega), List.getElem?_set_ne (fun z => e1 z.symm)]
set_option maxRecDepth 20000 in
theorem k_rule0 (D : En) {h : AH} {r : Nat} {fs : List Value} (hr : h[r]? = some (.inr (6, fs))) (hl : fs.length = 5) (hlen : h.length = r + 1) : Sp D 2 mX6_init [.ref r, .int (nI 0)] h 3 103 none (fun h' => h'[r]? = some (.inr (6, [.ref (4 + 0), .ref (r + 1), .ref (r + 3), .int (nI 0), .int (-1)])) ∧ RW h' (r + 1) 50 (fun _ => 0) (nI 0) (nI 0) ∧ Row0 h' (r + 3) 50 (fun _ => 0) ∧ h'.length = r + 4 ∧ ∀ x, x < r → h'[x]? = h[x]?) := by
  obtain ⟨f1, f2, f3, f4, f5, rfl⟩ : ∃ x1 x2 x3 x4 x5, fs = [x1, x2, x3, x4, x5] := by
    match fs, hl with
    | [x1, x2, x3, x4, x5], _ => exact ⟨x1, x2, x3, x4, x5, rfl⟩
  intro post hp
  show Ev D 2 mX6_init 0 [some (.ref r), some (.int (nI 0))] [] h 3 103 post
  refine e_aload_n dX6_init_0 rfl ?_
  refine e_objInit dX6_init_1 oi_X6_3 (by decide) (Nat.le_of_ble_eq_true rfl) ?_
  refine e_aload_n dX6_init_4 rfl ?_
  refine e_new (M := mX6_init) (N := 3) (nc := 2) (ns := 100) dX6_init_5 nw_X6_9 ft_5 rfl ?_
  refine e_dup dX6_init_8 rfl ?_
  refine e_bipush (nI 50) dX6_init_9 (by decide) ?_
  refine c_I1v (nc := 1) (ns := 50) (mc := 1) (ms := 50) (N := mX5_init) dX6_init_11 li_X6_11 mo_X5_init (Nat.le_of_ble_eq_true rfl) (Nat.le_of_ble_eq_true rfl) (by decide) (k_rinit D (gp_s rfl) rfl 50 (by decide)) (fun h2 hP => ?_)
  obtain ⟨p1, p2, p3, p4⟩ := hP
  rw [List.length_append, show [(Sum.inr (5, dfl 3 tyX5) : AC)].length = 1 from rfl, hlen] at p2 p3 p4
  rw [hlen] at p1
  rw [List.length_append, show [(Sum.inr (5, dfl 3 tyX5) : AC)].length = 1 from rfl, hlen] at p1
  have q0 : h2[r]? = some (.inr (6, [f1, f2, f3, f4, f5])) := (p4 r (by omega) (by omega)).trans (gp_l hr)
  have ql : ∀ x, x < r → h2[x]? = h[x]? := fun x hx => (p4 x (by omega) (by omega)).trans (List.getElem?_append_left (by omega))
  rw [hlen]
  refine e_put dX6_init_14 fl_X6_14_6 ft_6 (fun q hq => Or.inr (by cases hq; exact ⟨rfl, rfl, rfl⟩)) q0 (by show _ < 5; decide) rfl rfl ?_
  have q1 := getself (c := .inr (6, [f1, .ref (r + 1), f3, f4, f5])) q0
  have b1 := getset (b := r) (c := .inr (6, [f1, .ref (r + 1), f3, f4, f5])) p1 (by omega)
  have b2 := getset (b := r) (c := .inr (6, [f1, .ref (r + 1), f3, f4, f5])) p2 (by omega)
  have el : (h2.set r (.inr (6, [f1, .ref (r + 1), f3, f4, f5]))).length = r + 3 := by rw [List.length_set, p3]
  refine e_aload_n dX6_init_17 rfl ?_
  refine e_bipush (nI 50) dX6_init_18 (by decide) ?_
  refine e_newarray (M := mX6_init) (nc := 0) (ns := 0) 50 dX6_init_20 w_194 rfl (by decide) ?_
  refine e_put dX6_init_22 fl_X6_20_6 ft_6 (fun q hq => Or.inr (by cases hq; exact ⟨rfl, rfl, rfl⟩)) (gp_l q1) (by show _ < 5; decide) rfl rfl ?_
  have q2 := getself (c := .inr (6, [f1, .ref (r + 1), .ref (h2.set r (.inr (6, [f1, .ref (r + 1), f3, f4, f5]))).length, f4, f5])) (gp_l (c := .inl (0, 50, .inl (fun _ => 0))) q1)
  refine e_aload_n dX6_init_25 rfl ?_
  refine e_iconst (nI 0) dX6_init_26 (by decide) ?_
  refine e_put dX6_init_27 fl_X6_24_6 ft_6 (fun q hq => Or.inl (by cases hq; rfl)) q2 (by show _ < 5; decide) rfl rfl ?_
  have q3 := getself (c := .inr (6, [f1, .ref (r + 1), .ref (h2.set r (.inr (6, [f1, .ref (r + 1), f3, f4, f5]))).length, .int (nI 0), f5])) q2
  refine e_aload_n dX6_init_30 rfl ?_
  refine e_iconst (-1) dX6_init_31 (by decide) ?_
  refine e_put dX6_init_32 fl_X6_28_6 ft_6 (fun q hq => Or.inl (by cases hq; rfl)) q3 (by show _ < 5; decide) rfl rfl ?_
  have q4 := getself (c := .inr (6, [f1, .ref (r + 1), .ref (h2.set r (.inr (6, [f1, .ref (r + 1), f3, f4, f5]))).length, .int (nI 0), .int (-1)])) q3
  refine e_aload_n dX6_init_35 rfl ?_
  refine e_iload_n dX6_init_36 rfl ?_
  refine e_if_neN 45 dX6_init_37 (by decide) (by decide) (fun hc => absurd rfl hc) (fun hc => ?_)
  refine e_ldcS 4 (by decide) dX6_init_40 (fun s g9 => g9.2.2.2.1.1) ?_
  refine e_goto 57 dX6_init_42 (by decide) ?_
  refine e_put dX6_init_57 fl_X6_37_6 ft_6 (fun q hq => Or.inr (by cases hq; exact ⟨rfl, rfl, rfl⟩)) q4 (by show _ < 5; decide) rfl rfl ?_
  refine e_vret dX6_init_60 rfl (hp _ ⟨?_, ⟨?_, ?_⟩, ?_, ?_, ?_⟩)
  · exact (getself q4).trans (congrArg (fun z : Nat => (some (.inr (6, [.ref (4 + 0), .ref (r + 1), .ref z, .int (nI 0), .int (-1)])) : Option AC)) el)
  · exact getset (getset (getset (getset (gp_l b1) (by omega)) (by omega)) (by omega)) (by omega)
  · exact getset (getset (getset (getset (gp_l b2) (by omega)) (by omega)) (by omega)) (by omega)
  · exact getset (getset (getset (getset (gp_s el.symm) (by omega)) (by omega)) (by omega)) (by omega)
  · rw [List.length_set, List.length_set, List.length_set, List.length_set, List.length_append, List.length_set, p3]; rfl
  · intro x hx
    rw [List.getElem?_set_ne (by omega), List.getElem?_set_ne (by omega), List.getElem?_set_ne (by omega), List.getElem?_set_ne (by omega), List.getElem?_append_left (by rw [List.length_set]; omega), List.getElem?_set_ne (by omega)]
    exact ql x hx
set_option maxRecDepth 20000 in
theorem k_rule1 (D : En) {h : AH} {r : Nat} {fs : List Value} (hr : h[r]? = some (.inr (6, fs))) (hl : fs.length = 5) (hlen : h.length = r + 1) : Sp D 2 mX6_init [.ref r, .int (nI 1)] h 3 103 none (fun h' => h'[r]? = some (.inr (6, [.ref (4 + 1), .ref (r + 1), .ref (r + 3), .int (nI 0), .int (-1)])) ∧ RW h' (r + 1) 50 (fun _ => 0) (nI 0) (nI 0) ∧ Row0 h' (r + 3) 50 (fun _ => 0) ∧ h'.length = r + 4 ∧ ∀ x, x < r → h'[x]? = h[x]?) := by
  obtain ⟨f1, f2, f3, f4, f5, rfl⟩ : ∃ x1 x2 x3 x4 x5, fs = [x1, x2, x3, x4, x5] := by
    match fs, hl with
    | [x1, x2, x3, x4, x5], _ => exact ⟨x1, x2, x3, x4, x5, rfl⟩
  intro post hp
  show Ev D 2 mX6_init 0 [some (.ref r), some (.int (nI 1))] [] h 3 103 post
  refine e_aload_n dX6_init_0 rfl ?_
  refine e_objInit dX6_init_1 oi_X6_3 (by decide) (Nat.le_of_ble_eq_true rfl) ?_
  refine e_aload_n dX6_init_4 rfl ?_
  refine e_new (M := mX6_init) (N := 3) (nc := 2) (ns := 100) dX6_init_5 nw_X6_9 ft_5 rfl ?_
  refine e_dup dX6_init_8 rfl ?_
  refine e_bipush (nI 50) dX6_init_9 (by decide) ?_
  refine c_I1v (nc := 1) (ns := 50) (mc := 1) (ms := 50) (N := mX5_init) dX6_init_11 li_X6_11 mo_X5_init (Nat.le_of_ble_eq_true rfl) (Nat.le_of_ble_eq_true rfl) (by decide) (k_rinit D (gp_s rfl) rfl 50 (by decide)) (fun h2 hP => ?_)
  obtain ⟨p1, p2, p3, p4⟩ := hP
  rw [List.length_append, show [(Sum.inr (5, dfl 3 tyX5) : AC)].length = 1 from rfl, hlen] at p2 p3 p4
  rw [hlen] at p1
  rw [List.length_append, show [(Sum.inr (5, dfl 3 tyX5) : AC)].length = 1 from rfl, hlen] at p1
  have q0 : h2[r]? = some (.inr (6, [f1, f2, f3, f4, f5])) := (p4 r (by omega) (by omega)).trans (gp_l hr)
  have ql : ∀ x, x < r → h2[x]? = h[x]? := fun x hx => (p4 x (by omega) (by omega)).trans (List.getElem?_append_left (by omega))
  rw [hlen]
  refine e_put dX6_init_14 fl_X6_14_6 ft_6 (fun q hq => Or.inr (by cases hq; exact ⟨rfl, rfl, rfl⟩)) q0 (by show _ < 5; decide) rfl rfl ?_
  have q1 := getself (c := .inr (6, [f1, .ref (r + 1), f3, f4, f5])) q0
  have b1 := getset (b := r) (c := .inr (6, [f1, .ref (r + 1), f3, f4, f5])) p1 (by omega)
  have b2 := getset (b := r) (c := .inr (6, [f1, .ref (r + 1), f3, f4, f5])) p2 (by omega)
  have el : (h2.set r (.inr (6, [f1, .ref (r + 1), f3, f4, f5]))).length = r + 3 := by rw [List.length_set, p3]
  refine e_aload_n dX6_init_17 rfl ?_
  refine e_bipush (nI 50) dX6_init_18 (by decide) ?_
  refine e_newarray (M := mX6_init) (nc := 0) (ns := 0) 50 dX6_init_20 w_194 rfl (by decide) ?_
  refine e_put dX6_init_22 fl_X6_20_6 ft_6 (fun q hq => Or.inr (by cases hq; exact ⟨rfl, rfl, rfl⟩)) (gp_l q1) (by show _ < 5; decide) rfl rfl ?_
  have q2 := getself (c := .inr (6, [f1, .ref (r + 1), .ref (h2.set r (.inr (6, [f1, .ref (r + 1), f3, f4, f5]))).length, f4, f5])) (gp_l (c := .inl (0, 50, .inl (fun _ => 0))) q1)
  refine e_aload_n dX6_init_25 rfl ?_
  refine e_iconst (nI 0) dX6_init_26 (by decide) ?_
  refine e_put dX6_init_27 fl_X6_24_6 ft_6 (fun q hq => Or.inl (by cases hq; rfl)) q2 (by show _ < 5; decide) rfl rfl ?_
  have q3 := getself (c := .inr (6, [f1, .ref (r + 1), .ref (h2.set r (.inr (6, [f1, .ref (r + 1), f3, f4, f5]))).length, .int (nI 0), f5])) q2
  refine e_aload_n dX6_init_30 rfl ?_
  refine e_iconst (-1) dX6_init_31 (by decide) ?_
  refine e_put dX6_init_32 fl_X6_28_6 ft_6 (fun q hq => Or.inl (by cases hq; rfl)) q3 (by show _ < 5; decide) rfl rfl ?_
  have q4 := getself (c := .inr (6, [f1, .ref (r + 1), .ref (h2.set r (.inr (6, [f1, .ref (r + 1), f3, f4, f5]))).length, .int (nI 0), .int (-1)])) q3
  refine e_aload_n dX6_init_35 rfl ?_
  refine e_iload_n dX6_init_36 rfl ?_
  refine e_if_neN 45 dX6_init_37 (by decide) (by decide) (fun hc => ?_) (fun hc => absurd hc (by decide))
  refine e_iload_n dX6_init_45 rfl ?_
  refine e_iconst (nI 1) dX6_init_46 (by decide) ?_
  refine e_icmp_neN 55 dX6_init_47 (by decide) (by decide) (by decide) (fun hc => absurd rfl hc) (fun hc => ?_)
  refine e_ldcS 5 (by decide) dX6_init_50 (fun s g9 => g9.2.2.2.1.2.1) ?_
  refine e_goto 57 dX6_init_52 (by decide) ?_
  refine e_put dX6_init_57 fl_X6_37_6 ft_6 (fun q hq => Or.inr (by cases hq; exact ⟨rfl, rfl, rfl⟩)) q4 (by show _ < 5; decide) rfl rfl ?_
  refine e_vret dX6_init_60 rfl (hp _ ⟨?_, ⟨?_, ?_⟩, ?_, ?_, ?_⟩)
  · exact (getself q4).trans (congrArg (fun z : Nat => (some (.inr (6, [.ref (4 + 1), .ref (r + 1), .ref z, .int (nI 0), .int (-1)])) : Option AC)) el)
  · exact getset (getset (getset (getset (gp_l b1) (by omega)) (by omega)) (by omega)) (by omega)
  · exact getset (getset (getset (getset (gp_l b2) (by omega)) (by omega)) (by omega)) (by omega)
  · exact getset (getset (getset (getset (gp_s el.symm) (by omega)) (by omega)) (by omega)) (by omega)
  · rw [List.length_set, List.length_set, List.length_set, List.length_set, List.length_append, List.length_set, p3]; rfl
  · intro x hx
    rw [List.getElem?_set_ne (by omega), List.getElem?_set_ne (by omega), List.getElem?_set_ne (by omega), List.getElem?_set_ne (by omega), List.getElem?_append_left (by rw [List.length_set]; omega), List.getElem?_set_ne (by omega)]
    exact ql x hx
set_option maxRecDepth 20000 in
theorem k_rule2 (D : En) {h : AH} {r : Nat} {fs : List Value} (hr : h[r]? = some (.inr (6, fs))) (hl : fs.length = 5) (hlen : h.length = r + 1) : Sp D 2 mX6_init [.ref r, .int (nI 2)] h 3 103 none (fun h' => h'[r]? = some (.inr (6, [.ref (4 + 2), .ref (r + 1), .ref (r + 3), .int (nI 0), .int (-1)])) ∧ RW h' (r + 1) 50 (fun _ => 0) (nI 0) (nI 0) ∧ Row0 h' (r + 3) 50 (fun _ => 0) ∧ h'.length = r + 4 ∧ ∀ x, x < r → h'[x]? = h[x]?) := by
  obtain ⟨f1, f2, f3, f4, f5, rfl⟩ : ∃ x1 x2 x3 x4 x5, fs = [x1, x2, x3, x4, x5] := by
    match fs, hl with
    | [x1, x2, x3, x4, x5], _ => exact ⟨x1, x2, x3, x4, x5, rfl⟩
  intro post hp
  show Ev D 2 mX6_init 0 [some (.ref r), some (.int (nI 2))] [] h 3 103 post
  refine e_aload_n dX6_init_0 rfl ?_
  refine e_objInit dX6_init_1 oi_X6_3 (by decide) (Nat.le_of_ble_eq_true rfl) ?_
  refine e_aload_n dX6_init_4 rfl ?_
  refine e_new (M := mX6_init) (N := 3) (nc := 2) (ns := 100) dX6_init_5 nw_X6_9 ft_5 rfl ?_
  refine e_dup dX6_init_8 rfl ?_
  refine e_bipush (nI 50) dX6_init_9 (by decide) ?_
  refine c_I1v (nc := 1) (ns := 50) (mc := 1) (ms := 50) (N := mX5_init) dX6_init_11 li_X6_11 mo_X5_init (Nat.le_of_ble_eq_true rfl) (Nat.le_of_ble_eq_true rfl) (by decide) (k_rinit D (gp_s rfl) rfl 50 (by decide)) (fun h2 hP => ?_)
  obtain ⟨p1, p2, p3, p4⟩ := hP
  rw [List.length_append, show [(Sum.inr (5, dfl 3 tyX5) : AC)].length = 1 from rfl, hlen] at p2 p3 p4
  rw [hlen] at p1
  rw [List.length_append, show [(Sum.inr (5, dfl 3 tyX5) : AC)].length = 1 from rfl, hlen] at p1
  have q0 : h2[r]? = some (.inr (6, [f1, f2, f3, f4, f5])) := (p4 r (by omega) (by omega)).trans (gp_l hr)
  have ql : ∀ x, x < r → h2[x]? = h[x]? := fun x hx => (p4 x (by omega) (by omega)).trans (List.getElem?_append_left (by omega))
  rw [hlen]
  refine e_put dX6_init_14 fl_X6_14_6 ft_6 (fun q hq => Or.inr (by cases hq; exact ⟨rfl, rfl, rfl⟩)) q0 (by show _ < 5; decide) rfl rfl ?_
  have q1 := getself (c := .inr (6, [f1, .ref (r + 1), f3, f4, f5])) q0
  have b1 := getset (b := r) (c := .inr (6, [f1, .ref (r + 1), f3, f4, f5])) p1 (by omega)
  have b2 := getset (b := r) (c := .inr (6, [f1, .ref (r + 1), f3, f4, f5])) p2 (by omega)
  have el : (h2.set r (.inr (6, [f1, .ref (r + 1), f3, f4, f5]))).length = r + 3 := by rw [List.length_set, p3]
  refine e_aload_n dX6_init_17 rfl ?_
  refine e_bipush (nI 50) dX6_init_18 (by decide) ?_
  refine e_newarray (M := mX6_init) (nc := 0) (ns := 0) 50 dX6_init_20 w_194 rfl (by decide) ?_
  refine e_put dX6_init_22 fl_X6_20_6 ft_6 (fun q hq => Or.inr (by cases hq; exact ⟨rfl, rfl, rfl⟩)) (gp_l q1) (by show _ < 5; decide) rfl rfl ?_
  have q2 := getself (c := .inr (6, [f1, .ref (r + 1), .ref (h2.set r (.inr (6, [f1, .ref (r + 1), f3, f4, f5]))).length, f4, f5])) (gp_l (c := .inl (0, 50, .inl (fun _ => 0))) q1)
  refine e_aload_n dX6_init_25 rfl ?_
  refine e_iconst (nI 0) dX6_init_26 (by decide) ?_
  refine e_put dX6_init_27 fl_X6_24_6 ft_6 (fun q hq => Or.inl (by cases hq; rfl)) q2 (by show _ < 5; decide) rfl rfl ?_
  have q3 := getself (c := .inr (6, [f1, .ref (r + 1), .ref (h2.set r (.inr (6, [f1, .ref (r + 1), f3, f4, f5]))).length, .int (nI 0), f5])) q2
  refine e_aload_n dX6_init_30 rfl ?_
  refine e_iconst (-1) dX6_init_31 (by decide) ?_
  refine e_put dX6_init_32 fl_X6_28_6 ft_6 (fun q hq => Or.inl (by cases hq; rfl)) q3 (by show _ < 5; decide) rfl rfl ?_
  have q4 := getself (c := .inr (6, [f1, .ref (r + 1), .ref (h2.set r (.inr (6, [f1, .ref (r + 1), f3, f4, f5]))).length, .int (nI 0), .int (-1)])) q3
  refine e_aload_n dX6_init_35 rfl ?_
  refine e_iload_n dX6_init_36 rfl ?_
  refine e_if_neN 45 dX6_init_37 (by decide) (by decide) (fun hc => ?_) (fun hc => absurd hc (by decide))
  refine e_iload_n dX6_init_45 rfl ?_
  refine e_iconst (nI 1) dX6_init_46 (by decide) ?_
  refine e_icmp_neN 55 dX6_init_47 (by decide) (by decide) (by decide) (fun hc => ?_) (fun hc => absurd hc (by decide))
  refine e_ldcS 6 (by decide) dX6_init_55 (fun s g9 => g9.2.2.2.1.2.2.1) ?_
  refine e_put dX6_init_57 fl_X6_37_6 ft_6 (fun q hq => Or.inr (by cases hq; exact ⟨rfl, rfl, rfl⟩)) q4 (by show _ < 5; decide) rfl rfl ?_
  refine e_vret dX6_init_60 rfl (hp _ ⟨?_, ⟨?_, ?_⟩, ?_, ?_, ?_⟩)
  · exact (getself q4).trans (congrArg (fun z : Nat => (some (.inr (6, [.ref (4 + 2), .ref (r + 1), .ref z, .int (nI 0), .int (-1)])) : Option AC)) el)
  · exact getset (getset (getset (getset (gp_l b1) (by omega)) (by omega)) (by omega)) (by omega)
  · exact getset (getset (getset (getset (gp_l b2) (by omega)) (by omega)) (by omega)) (by omega)
  · exact getset (getset (getset (getset (gp_s el.symm) (by omega)) (by omega)) (by omega)) (by omega)
  · rw [List.length_set, List.length_set, List.length_set, List.length_set, List.length_append, List.length_set, p3]; rfl
  · intro x hx
    rw [List.getElem?_set_ne (by omega), List.getElem?_set_ne (by omega), List.getElem?_set_ne (by omega), List.getElem?_set_ne (by omega), List.getElem?_append_left (by rw [List.length_set]; omega), List.getElem?_set_ne (by omega)]
    exact ql x hx
theorem k_rule (D : En) {h : AH} {r u : Nat} {fs : List Value} (hu : u < 3) (hr : h[r]? = some (.inr (6, fs))) (hl : fs.length = 5) (hlen : h.length = r + 1) : Sp D 2 mX6_init [.ref r, .int (nI u)] h 3 103 none (fun h' => h'[r]? = some (.inr (6, [.ref (4 + u), .ref (r + 1), .ref (r + 3), .int (nI 0), .int (-1)])) ∧ RW h' (r + 1) 50 (fun _ => 0) (nI 0) (nI 0) ∧ Row0 h' (r + 3) 50 (fun _ => 0) ∧ h'.length = r + 4 ∧ ∀ x, x < r → h'[x]? = h[x]?) := by
  rcases (show u = 0 ∨ u = 1 ∨ u = 2 by omega) with rfl | rfl | rfl
  · exact k_rule0 D hr hl hlen
  · exact k_rule1 D hr hl hlen
  · exact k_rule2 D hr hl hlen
