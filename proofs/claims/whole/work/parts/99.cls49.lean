/-! WHAT IS MADE -/
def NR (h : AH) : Prop := ∀ (r : Nat) (fs : List Value), h[r]? ≠ some (.inr (6, fs))
theorem NR.rb {h : AH} (n : NR h) : RB h := fun r fs hr => absurd hr (n r fs)
def RI (h : AH) (a ci : Nat) (rws : Nat → AC) (k : Nat) (H : AH) (fs : List Value) : Prop := H[a]? = some (.inr (ci, fs)) ∧ H.length = a + 1 + k ∧ (∀ i, i < k → H[a + 1 + i]? = some (rws i)) ∧ (∀ x, x < a → H[x]? = h[x]?) ∧ NR H
theorem RI.put {h H H' : AH} {a ci k : Nat} {rws : Nat → AC} {fs fs' : List Value} (R : RI h a ci rws k H fs) (hci : ci ≠ 6) (g1 : H'[a]? = some (.inr (ci, fs'))) (g3 : H'.length = H.length) (g4 : ∀ x, x ≠ a → H'[x]? = H[x]?) : RI h a ci rws k H' fs' := by
  obtain ⟨r1, r2, r3, r4, r5⟩ := R
  refine ⟨g1, g3.trans r2, fun i hi => (g4 _ (by omega)).trans (r3 i hi), fun x hx => (g4 x (by omega)).trans (r4 x hx), fun r gs h6 => ?_⟩
  by_cases e : r = a
  · rw [e, g1] at h6
    exact hci (congrArg (fun q : Option AC => match q with | some (.inr z) => z.1 | _ => 0) h6)
  · rw [g4 r e] at h6
    exact r5 r gs h6
theorem RI.new {h H H' : AH} {a ci k : Nat} {rws : Nat → AC} {fs fs' : List Value} (R : RI h a ci rws k H fs) (hci : ci ≠ 6) (hrw : ∀ gs, rws k ≠ .inr (6, gs)) (g1 : H'[a]? = some (.inr (ci, fs'))) (g2 : H'[H.length]? = some (rws k)) (g3 : H'.length = H.length + 1) (g4 : ∀ x, x < H.length → x ≠ a → H'[x]? = H[x]?) : RI h a ci rws (k + 1) H' fs' := by
  obtain ⟨r1, r2, r3, r4, r5⟩ := R
  refine ⟨g1, by omega, fun i hi => ?_, fun x hx => (g4 x (by omega) (by omega)).trans (r4 x hx), fun r gs h6 => ?_⟩
  · by_cases e : i = k
    · rw [e, show a + 1 + k = H.length by omega]; exact g2
    · exact (g4 _ (by omega) (by omega)).trans (r3 i (by omega))
  · by_cases e : r = a
    · rw [e, g1] at h6
      exact hci (congrArg (fun q : Option AC => match q with | some (.inr z) => z.1 | _ => 0) h6)
    · have hl := (List.getElem?_eq_some_iff.mp h6).1
      by_cases e2 : r = H.length
      · rw [e2, g2] at h6
        exact hrw gs (Option.some.inj h6)
      · rw [g4 r (by omega) e] at h6
        exact r5 r gs h6
theorem e_fput {D : En} {d : Nat} {M : Mt} {pc : Nat} {ls : List (Option Value)} {st : List Value} {nc ns : Nat} {post : Option Value → AH → Prop} {h : AH} {idx a ci k : Nat} {fs : List Value} {v : Value} (hd : decode M.2.1 pc = .ok (.putfield idx, 3)) (hf : FL M.1.cls idx ci k) {ty0 : Nat → FieldType} (hft : FT ci ty0) (hfin : ∀ q, vwCl[ci]? = some q → (q.2.1 k).2.2.2 = false ∨ ((q.2.1 k).2.2.2 = true ∧ M.1.name = "<init>" ∧ (q.2.1 k).1 = M.1.cls)) (hc : h[a]? = some (.inr (ci, fs))) (hk : k < fs.length) (hn : narrow (ty0 k) v = v) (hfit : fits (ty0 k) v = true) (kk : ∀ H', H'[a]? = some (.inr (ci, fs.set k v)) → H'.length = h.length → (∀ x, x ≠ a → H'[x]? = h[x]?) → Ev D d M (pc + 3) ls st H' nc ns post) : Ev D d M pc ls (v :: .ref a :: st) h nc ns post :=
  e_put hd hf hft hfin hc hk hn hfit (kk _ (getself hc) (List.length_set ..) (fun x e => List.getElem?_set_ne (fun q => e q.symm)))
theorem e_rowput {D : En} {d : Nat} {M : Mt} {pc : Nat} {ls : List (Option Value)} {st : List Value} {nc ns : Nat} {post : Option Value → AH → Prop} {h : AH} {idx a ci k : Nat} {fs : List Value} (N : Nat) (hd : decode M.2.1 pc = .ok (.newarray .int, 2)) (hd2 : decode M.2.1 (pc + 2) = .ok (.putfield idx, 3)) (hN : N ≤ 1000) (hf : FL M.1.cls idx ci k) {ty0 : Nat → FieldType} (hft : FT ci ty0) (hfin : ∀ q, vwCl[ci]? = some q → (q.2.1 k).2.2.2 = false ∨ ((q.2.1 k).2.2.2 = true ∧ M.1.name = "<init>" ∧ (q.2.1 k).1 = M.1.cls)) (hc : h[a]? = some (.inr (ci, fs))) (hk : k < fs.length) (hn : narrow (ty0 k) (.ref h.length) = .ref h.length) (hfit : fits (ty0 k) (.ref h.length) = true) (kk : ∀ H', H'[a]? = some (.inr (ci, fs.set k (.ref h.length))) → H'[h.length]? = some (.inl (0, N, .inl (fun _ => 0))) → H'.length = h.length + 1 → (∀ x, x < h.length → x ≠ a → H'[x]? = h[x]?) → Ev D d M (pc + 2 + 3) ls st H' nc ns post) : Ev D d M pc ls (.int (nI N) :: .ref a :: st) h (nc + 1) (ns + N) post := by
  have hal : a < h.length := (List.getElem?_eq_some_iff.mp hc).1
  refine e_newarray N hd w_194 rfl hN ?_
  refine e_put hd2 hf hft hfin (gp_l hc) hk hn hfit ?_
  refine kk _ (getself (gp_l hc)) (getset (gp_s rfl) (by omega)) (by rw [List.length_set, List.length_append]; rfl) (fun x h1 h2 => ?_)
  rw [List.getElem?_set_ne (fun q => h2 q.symm), List.getElem?_append_left h1]
theorem e_refput {D : En} {d : Nat} {M : Mt} {pc : Nat} {ls : List (Option Value)} {st : List Value} {nc ns : Nat} {post : Option Value → AH → Prop} {h : AH} {i1 idx a ci k : Nat} {fs : List Value} (t N : Nat) (ht : t = 1 ∨ t = 2 ∨ t = 3 ∨ t = 4) (hd : decode M.2.1 pc = .ok (.anewarray i1, 3)) (hw : Cond.classLink M.1.cls i1 (tyN t) ∈ tG) (hd2 : decode M.2.1 (pc + 3) = .ok (.putfield idx, 3)) (hN : N ≤ 1000) (hf : FL M.1.cls idx ci k) {ty0 : Nat → FieldType} (hft : FT ci ty0) (hfin : ∀ q, vwCl[ci]? = some q → (q.2.1 k).2.2.2 = false ∨ ((q.2.1 k).2.2.2 = true ∧ M.1.name = "<init>" ∧ (q.2.1 k).1 = M.1.cls)) (hc : h[a]? = some (.inr (ci, fs))) (hk : k < fs.length) (hn : narrow (ty0 k) (.ref h.length) = .ref h.length) (hfit : fits (ty0 k) (.ref h.length) = true) (kk : ∀ H', H'[a]? = some (.inr (ci, fs.set k (.ref h.length))) → H'[h.length]? = some (.inl (t, N, .inr (.inr (.inr (.inr (fun _ => none)))))) → H'.length = h.length + 1 → (∀ x, x < h.length → x ≠ a → H'[x]? = h[x]?) → Ev D d M (pc + 3 + 3) ls st H' nc ns post) : Ev D d M pc ls (.int (nI N) :: .ref a :: st) h (nc + 1) (ns + N) post := by
  have hal : a < h.length := (List.getElem?_eq_some_iff.mp hc).1
  refine e_anewarray t N ht hd hw rfl hN ?_
  refine e_put hd2 hf hft hfin (gp_l hc) hk hn hfit ?_
  refine kk _ (getself (gp_l hc)) (getset (gp_s rfl) (by omega)) (by rw [List.length_set, List.length_append]; rfl) (fun x h1 h2 => ?_)
  rw [List.getElem?_set_ne (fun q => h2 q.symm), List.getElem?_append_left h1]
/-- the numbers at the start -/
def N0 : Nat → Int32 := upd (upd (upd (upd (upd (upd (upd (fun _ => 0) 5 (nI 1)) 6 (nI 2)) 7 (nI 3)) 8 (nI 6)) 9 (nI 3)) 10 (nI 5)) 11 (nI 100)
theorem N0_z {j : Nat} (h : j < 5 ∨ 12 ≤ j) : N0 j = 0 := by
  unfold N0
  rw [pk_un (by omega), pk_un (by omega), pk_un (by omega), pk_un (by omega), pk_un (by omega), pk_un (by omega), pk_un (by omega)]
def lr0 (f3 : Nat → Int32) (i : Nat) : AC := match i with
  | 0 => .inl (0, 8, .inl (fun _ => 0)) | 1 => .inl (0, 24, .inl (fun _ => 0)) | 2 => .inl (0, 8, .inl (fun _ => 0)) | 3 => .inl (1, 10, .inr (.inr (.inr (.inr (fun _ => none))))) | 4 => .inl (0, 10, .inl (fun _ => 0)) | 5 => .inl (0, 10, .inl (fun _ => 0)) | 6 => .inl (0, 10, .inl (fun _ => 0)) | 7 => .inl (0, 6, .inl f3) | 8 => .inl (2, 3, .inr (.inr (.inr (.inr (fun _ => none))))) | 9 => .inl (0, 8, .inl (fun _ => 0)) | _ => .inl (0, 3, .inl (fun _ => 0))
theorem nv_0 : nvN N0 = 0 := by unfold nvN; rw [N0_z (by omega)]; rfl
theorem tc_0 : tcN N0 = 0 := by unfold tcN; rw [N0_z (by omega)]; rfl
theorem tx_0 (u : Nat) : txN N0 u = [] := by
  unfold txN
  rw [N0_z (by omega)]
  rfl
theorem op_0 : opB N0 = nI 0 := by unfold opB; rw [tc_0]; rfl
theorem md_z0 (v : Nat) (hv : v < 8) : mdB N0 v = 0 := by
  have : ∀ n, n ≤ 8 → orF (fun b => if N0 (48 + 8 * v + b) = nI 1 then nI 1 <<< (nI b &&& 31) else nI 0) n = 0 := by
    intro n
    induction n with
    | zero => intro _; rfl
    | succ n ih =>
      intro h
      rw [orF, ih (by omega), N0_z (by omega), if_neg (by decide)]
      decide
  exact this 8 (by decide)
theorem land_0 {h H : AH} {a : Nat} {f3 : Nat → Int32} (R : RI h a 4 (lr0 f3) 11 H (lnF a N0)) (hf : ∀ k, k < 6 → f3 k = N0 (7 + k)) : LandAt H a N0 ∧ TN H a 0 := by
  obtain ⟨r1, r2, r3, r4, r5⟩ := R
  refine ⟨⟨r1, ⟨_, r3 0 (by decide), fun v hv => (N0_z (by omega)).symm⟩, ⟨_, r3 1 (by decide), fun v hv w hw => (N0_z (by omega)).symm⟩, ⟨_, r3 2 (by decide), fun v hv => (md_z0 v hv).symm⟩, ⟨_, r3 3 (by decide), fun t ht => ?_⟩, ⟨_, r3 4 (by decide), fun t ht => ?_⟩, ⟨_, r3 5 (by decide), fun t ht => ?_⟩, ⟨_, r3 7 (by decide), hf⟩, ⟨_, r3 8 (by decide), fun u hu => Or.inl ⟨tx_0 u, rfl⟩⟩, ⟨_, r3 9 (by decide)⟩, ⟨_, r3 10 (by decide)⟩, ⟨_, r3 6 (by decide), fun t ht => ?_⟩⟩, ⟨_, r3 3 (by decide), fun t _ _ => rfl⟩⟩
  · rw [tc_0] at ht; omega
  · rw [tc_0] at ht; omega
  · rw [tc_0] at ht; omega
  · rw [tc_0] at ht; omega
set_option maxRecDepth 20000 in
theorem k_linit (D : En) {h : AH} {a : Nat} {fs : List Value} (ho : h[a]? = some (.inr (4, fs))) (hl : fs.length = 16) (hlen : h.length = a + 1) (ha : 11 ≤ a) {f3 : Nat → Int32} (h3 : h[3]? = some (.inl (6, 6, .inl f3))) (hf3 : ∀ k, k < 6 → f3 k = N0 (7 + k)) (hn : NR h) : Sp D 1 mX4_init [.ref a] h 11 100 none (fun h' => LandAt h' a N0 ∧ TN h' a 0 ∧ h'.length = a + 1 + 11 ∧ (∀ x, x < a → h'[x]? = h[x]?) ∧ NR h') := by
  obtain ⟨x0, x1, x2, x3, x4, x5, x6, x7, x8, x9, x10, x11, x12, x13, x14, x15, rfl⟩ : ∃ x0 x1 x2 x3 x4 x5 x6 x7 x8 x9 x10 x11 x12 x13 x14 x15, fs = [x0, x1, x2, x3, x4, x5, x6, x7, x8, x9, x10, x11, x12, x13, x14, x15] := by
    match fs, hl with
    | [x0, x1, x2, x3, x4, x5, x6, x7, x8, x9, x10, x11, x12, x13, x14, x15], _ => exact ⟨x0, x1, x2, x3, x4, x5, x6, x7, x8, x9, x10, x11, x12, x13, x14, x15, rfl⟩
  have R0 : RI h a 4 (lr0 f3) 0 h [x0, x1, x2, x3, x4, x5, x6, x7, x8, x9, x10, x11, x12, x13, x14, x15] := ⟨ho, by omega, fun i hi => by omega, fun _ _ => rfl, hn⟩
  intro post hp
  show Ev D 1 mX4_init 0 [some (.ref a)] [] h 11 100 post
  refine e_aload_n dX4_init_0 rfl ?_
  refine e_objInit dX4_init_1 oi_X4_3 (by decide) (Nat.le_of_ble_eq_true rfl) ?_
  refine e_aload_n dX4_init_4 rfl ?_
  refine e_iconst (nI 0) dX4_init_5 (by decide) ?_
  refine e_fput dX4_init_6 fl_X4_9_4 ft_4 (fun q hq => Or.inl (by cases hq; rfl)) R0.1 (by show _ < 16; decide) rfl rfl (fun H1 g1 g3 g4 => ?_)
  have R1 := RI.put (fs' := [.int (nI 0), x1, x2, x3, x4, x5, x6, x7, x8, x9, x10, x11, x12, x13, x14, x15]) R0 (by decide) g1 g3 g4
  clear g1 g3 g4
  refine e_aload_n dX4_init_9 rfl ?_
  refine e_iconst (nI 2) dX4_init_10 (by decide) ?_
  refine e_fput dX4_init_11 fl_X4_15_4 ft_4 (fun q hq => Or.inl (by cases hq; rfl)) R1.1 (by show _ < 16; decide) rfl rfl (fun H2 g1 g3 g4 => ?_)
  have R2 := RI.put (fs' := [.int (nI 0), .int (nI 2), x2, x3, x4, x5, x6, x7, x8, x9, x10, x11, x12, x13, x14, x15]) R1 (by decide) g1 g3 g4
  clear g1 g3 g4
  refine e_aload_n dX4_init_14 rfl ?_
  refine e_iconst (nI 0) dX4_init_15 (by decide) ?_
  refine e_fput dX4_init_16 fl_X4_18_4 ft_4 (fun q hq => Or.inl (by cases hq; rfl)) R2.1 (by show _ < 16; decide) rfl rfl (fun H3 g1 g3 g4 => ?_)
  have R3 := RI.put (fs' := [.int (nI 0), .int (nI 2), .int (nI 0), x3, x4, x5, x6, x7, x8, x9, x10, x11, x12, x13, x14, x15]) R2 (by decide) g1 g3 g4
  clear g1 g3 g4
  refine e_aload_n dX4_init_19 rfl ?_
  refine e_iconst (nI 0) dX4_init_20 (by decide) ?_
  refine e_fput dX4_init_21 fl_X4_21_4 ft_4 (fun q hq => Or.inl (by cases hq; rfl)) R3.1 (by show _ < 16; decide) rfl rfl (fun H4 g1 g3 g4 => ?_)
  have R4 := RI.put (fs' := [.int (nI 0), .int (nI 2), .int (nI 0), .int (nI 0), x4, x5, x6, x7, x8, x9, x10, x11, x12, x13, x14, x15]) R3 (by decide) g1 g3 g4
  clear g1 g3 g4
  refine e_aload_n dX4_init_24 rfl ?_
  refine e_iconst (nI 0) dX4_init_25 (by decide) ?_
  refine e_fput dX4_init_26 fl_X4_24_4 ft_4 (fun q hq => Or.inl (by cases hq; rfl)) R4.1 (by show _ < 16; decide) rfl rfl (fun H5 g1 g3 g4 => ?_)
  have R5 := RI.put (fs' := [.int (nI 0), .int (nI 2), .int (nI 0), .int (nI 0), .int (nI 0), x5, x6, x7, x8, x9, x10, x11, x12, x13, x14, x15]) R4 (by decide) g1 g3 g4
  clear g1 g3 g4
  refine e_aload_n dX4_init_29 rfl ?_
  refine e_bipush (nI 8) dX4_init_30 (by decide) ?_
  refine e_rowput (M := mX4_init) (nc := 10) (ns := 92) 8 dX4_init_32 dX4_init_34 (by decide) fl_X4_27_4 ft_4 (fun q hq => Or.inr (by cases hq; exact ⟨rfl, rfl, rfl⟩)) R5.1 (by show _ < 16; decide) rfl rfl (fun H6 g1 g2 g3 g4 => ?_)
  have R6 := RI.new (fs' := [.int (nI 0), .int (nI 2), .int (nI 0), .int (nI 0), .int (nI 0), .ref H5.length, x6, x7, x8, x9, x10, x11, x12, x13, x14, x15]) R5 (by decide) (fun gs e => by cases e) g1 g2 g3 g4
  clear g1 g2 g3 g4
  rw [show H5.length = a + 1 from by rw [R5.2.1]] at R6
  refine e_aload_n dX4_init_37 rfl ?_
  refine e_bipush (nI 24) dX4_init_38 (by decide) ?_
  refine e_rowput (M := mX4_init) (nc := 9) (ns := 68) 24 dX4_init_40 dX4_init_42 (by decide) fl_X4_31_4 ft_4 (fun q hq => Or.inr (by cases hq; exact ⟨rfl, rfl, rfl⟩)) R6.1 (by show _ < 16; decide) rfl rfl (fun H7 g1 g2 g3 g4 => ?_)
  have R7 := RI.new (fs' := [.int (nI 0), .int (nI 2), .int (nI 0), .int (nI 0), .int (nI 0), .ref (a + 1), .ref H6.length, x7, x8, x9, x10, x11, x12, x13, x14, x15]) R6 (by decide) (fun gs e => by cases e) g1 g2 g3 g4
  clear g1 g2 g3 g4
  rw [show H6.length = a + 2 from by rw [R6.2.1]] at R7
  refine e_aload_n dX4_init_45 rfl ?_
  refine e_bipush (nI 8) dX4_init_46 (by decide) ?_
  refine e_rowput (M := mX4_init) (nc := 8) (ns := 60) 8 dX4_init_48 dX4_init_50 (by decide) fl_X4_34_4 ft_4 (fun q hq => Or.inr (by cases hq; exact ⟨rfl, rfl, rfl⟩)) R7.1 (by show _ < 16; decide) rfl rfl (fun H8 g1 g2 g3 g4 => ?_)
  have R8 := RI.new (fs' := [.int (nI 0), .int (nI 2), .int (nI 0), .int (nI 0), .int (nI 0), .ref (a + 1), .ref (a + 2), .ref H7.length, x8, x9, x10, x11, x12, x13, x14, x15]) R7 (by decide) (fun gs e => by cases e) g1 g2 g3 g4
  clear g1 g2 g3 g4
  rw [show H7.length = a + 3 from by rw [R7.2.1]] at R8
  refine e_aload_n dX4_init_53 rfl ?_
  refine e_bipush (nI 10) dX4_init_54 (by decide) ?_
  refine e_refput (M := mX4_init) (nc := 7) (ns := 50) 1 10 (Or.inl rfl) dX4_init_56 w_114 dX4_init_59 (by decide) fl_X4_39_4 ft_4 (fun q hq => Or.inr (by cases hq; exact ⟨rfl, rfl, rfl⟩)) R8.1 (by show _ < 16; decide) rfl rfl (fun H9 g1 g2 g3 g4 => ?_)
  have R9 := RI.new (fs' := [.int (nI 0), .int (nI 2), .int (nI 0), .int (nI 0), .int (nI 0), .ref (a + 1), .ref (a + 2), .ref (a + 3), .ref H8.length, x9, x10, x11, x12, x13, x14, x15]) R8 (by decide) (fun gs e => by cases e) g1 g2 g3 g4
  clear g1 g2 g3 g4
  rw [show H8.length = a + 4 from by rw [R8.2.1]] at R9
  refine e_aload_n dX4_init_62 rfl ?_
  refine e_bipush (nI 10) dX4_init_63 (by decide) ?_
  refine e_rowput (M := mX4_init) (nc := 6) (ns := 40) 10 dX4_init_65 dX4_init_67 (by decide) fl_X4_43_4 ft_4 (fun q hq => Or.inr (by cases hq; exact ⟨rfl, rfl, rfl⟩)) R9.1 (by show _ < 16; decide) rfl rfl (fun H10 g1 g2 g3 g4 => ?_)
  have R10 := RI.new (fs' := [.int (nI 0), .int (nI 2), .int (nI 0), .int (nI 0), .int (nI 0), .ref (a + 1), .ref (a + 2), .ref (a + 3), .ref (a + 4), .ref H9.length, x10, x11, x12, x13, x14, x15]) R9 (by decide) (fun gs e => by cases e) g1 g2 g3 g4
  clear g1 g2 g3 g4
  rw [show H9.length = a + 5 from by rw [R9.2.1]] at R10
  refine e_aload_n dX4_init_70 rfl ?_
  refine e_bipush (nI 10) dX4_init_71 (by decide) ?_
  refine e_rowput (M := mX4_init) (nc := 5) (ns := 30) 10 dX4_init_73 dX4_init_75 (by decide) fl_X4_46_4 ft_4 (fun q hq => Or.inr (by cases hq; exact ⟨rfl, rfl, rfl⟩)) R10.1 (by show _ < 16; decide) rfl rfl (fun H11 g1 g2 g3 g4 => ?_)
  have R11 := RI.new (fs' := [.int (nI 0), .int (nI 2), .int (nI 0), .int (nI 0), .int (nI 0), .ref (a + 1), .ref (a + 2), .ref (a + 3), .ref (a + 4), .ref (a + 5), .ref H10.length, x11, x12, x13, x14, x15]) R10 (by decide) (fun gs e => by cases e) g1 g2 g3 g4
  clear g1 g2 g3 g4
  rw [show H10.length = a + 6 from by rw [R10.2.1]] at R11
  refine e_aload_n dX4_init_78 rfl ?_
  refine e_bipush (nI 10) dX4_init_79 (by decide) ?_
  refine e_rowput (M := mX4_init) (nc := 4) (ns := 20) 10 dX4_init_81 dX4_init_83 (by decide) fl_X4_49_4 ft_4 (fun q hq => Or.inr (by cases hq; exact ⟨rfl, rfl, rfl⟩)) R11.1 (by show _ < 16; decide) rfl rfl (fun H12 g1 g2 g3 g4 => ?_)
  have R12 := RI.new (fs' := [.int (nI 0), .int (nI 2), .int (nI 0), .int (nI 0), .int (nI 0), .ref (a + 1), .ref (a + 2), .ref (a + 3), .ref (a + 4), .ref (a + 5), .ref (a + 6), .ref H11.length, x12, x13, x14, x15]) R11 (by decide) (fun gs e => by cases e) g1 g2 g3 g4
  clear g1 g2 g3 g4
  rw [show H11.length = a + 7 from by rw [R11.2.1]] at R12
  refine e_aload_n dX4_init_86 rfl ?_
  refine e_getsFirst rfl dX4_init_87 ?_
  refine e_clone (nc := 3) (ns := 14) dX4_init_90 cl_X4_55 (Nat.le_of_ble_eq_true rfl) (by decide) ((R12.2.2.2.1 3 (by omega)).trans h3) ?_
  refine e_castI dX4_init_93 w_124 (gp_s rfl) ?_
  have hal9 : a < H12.length := (List.getElem?_eq_some_iff.mp R12.1).1
  refine e_fput dX4_init_96 fl_X4_60_4 ft_4 (fun q hq => Or.inr (by cases hq; exact ⟨rfl, rfl, rfl⟩)) (gp_l R12.1) (by show _ < 16; decide) rfl rfl (fun H13 g1 g7 g8 => ?_)
  have g2 := (g8 H12.length (by omega)).trans (gp_s (c := .inl (0, 6, .inl f3)) rfl)
  have g3 : H13.length = H12.length + 1 := by rw [g7, List.length_append]; rfl
  have g4 : ∀ x, x < H12.length → x ≠ a → H13[x]? = H12[x]? := fun x h1 h2 => (g8 x h2).trans (List.getElem?_append_left h1)
  have R13 := RI.new (fs' := [.int (nI 0), .int (nI 2), .int (nI 0), .int (nI 0), .int (nI 0), .ref (a + 1), .ref (a + 2), .ref (a + 3), .ref (a + 4), .ref (a + 5), .ref (a + 6), .ref (a + 7), .ref H12.length, x13, x14, x15]) R12 (by decide) (fun gs e => by cases e) g1 g2 g3 g4
  clear g1 g2 g3 g4
  rw [show H12.length = a + 8 from by rw [R12.2.1]] at R13
  refine e_aload_n dX4_init_99 rfl ?_
  refine e_iconst (nI 3) dX4_init_100 (by decide) ?_
  refine e_refput (M := mX4_init) (nc := 2) (ns := 11) 2 3 (Or.inr (Or.inl rfl)) dX4_init_101 w_125 dX4_init_104 (by decide) fl_X4_65_4 ft_4 (fun q hq => Or.inr (by cases hq; exact ⟨rfl, rfl, rfl⟩)) R13.1 (by show _ < 16; decide) rfl rfl (fun H14 g1 g2 g3 g4 => ?_)
  have R14 := RI.new (fs' := [.int (nI 0), .int (nI 2), .int (nI 0), .int (nI 0), .int (nI 0), .ref (a + 1), .ref (a + 2), .ref (a + 3), .ref (a + 4), .ref (a + 5), .ref (a + 6), .ref (a + 7), .ref (a + 8), .ref H13.length, x14, x15]) R13 (by decide) (fun gs e => by cases e) g1 g2 g3 g4
  clear g1 g2 g3 g4
  rw [show H13.length = a + 9 from by rw [R13.2.1]] at R14
  refine e_aload_n dX4_init_107 rfl ?_
  refine e_bipush (nI 8) dX4_init_108 (by decide) ?_
  refine e_rowput (M := mX4_init) (nc := 1) (ns := 3) 8 dX4_init_110 dX4_init_112 (by decide) fl_X4_69_4 ft_4 (fun q hq => Or.inr (by cases hq; exact ⟨rfl, rfl, rfl⟩)) R14.1 (by show _ < 16; decide) rfl rfl (fun H15 g1 g2 g3 g4 => ?_)
  have R15 := RI.new (fs' := [.int (nI 0), .int (nI 2), .int (nI 0), .int (nI 0), .int (nI 0), .ref (a + 1), .ref (a + 2), .ref (a + 3), .ref (a + 4), .ref (a + 5), .ref (a + 6), .ref (a + 7), .ref (a + 8), .ref (a + 9), .ref H14.length, x15]) R14 (by decide) (fun gs e => by cases e) g1 g2 g3 g4
  clear g1 g2 g3 g4
  rw [show H14.length = a + 10 from by rw [R14.2.1]] at R15
  refine e_aload_n dX4_init_115 rfl ?_
  refine e_iconst (nI 3) dX4_init_116 (by decide) ?_
  refine e_rowput (M := mX4_init) (nc := 0) (ns := 0) 3 dX4_init_117 dX4_init_119 (by decide) fl_X4_72_4 ft_4 (fun q hq => Or.inr (by cases hq; exact ⟨rfl, rfl, rfl⟩)) R15.1 (by show _ < 16; decide) rfl rfl (fun H16 g1 g2 g3 g4 => ?_)
  have R16 := RI.new (fs' := [.int (nI 0), .int (nI 2), .int (nI 0), .int (nI 0), .int (nI 0), .ref (a + 1), .ref (a + 2), .ref (a + 3), .ref (a + 4), .ref (a + 5), .ref (a + 6), .ref (a + 7), .ref (a + 8), .ref (a + 9), .ref (a + 10), .ref H15.length]) R15 (by decide) (fun gs e => by cases e) g1 g2 g3 g4
  clear g1 g2 g3 g4
  rw [show H15.length = a + 11 from by rw [R15.2.1]] at R16
  have e9 : [.int (nI 0), .int (nI 2), .int (nI 0), .int (nI 0), .int (nI 0), .ref (a + 1), .ref (a + 2), .ref (a + 3), .ref (a + 4), .ref (a + 5), .ref (a + 6), .ref (a + 7), .ref (a + 8), .ref (a + 9), .ref (a + 10), .ref (a + 11)] = lnF a N0 := by unfold lnF; rw [op_0, N0_z (j := 0) (by omega), N0_z (j := 1) (by omega), N0_z (j := 2) (by omega)]; rfl
  rw [e9] at R16
  obtain ⟨q1, q2⟩ := land_0 R16 hf3
  exact e_vret dX4_init_122 rfl (hp _ ⟨q1, q2, R16.2.1, R16.2.2.2.1, R16.2.2.2.2⟩)
