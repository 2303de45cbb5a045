theorem e_istA {D : En} {d : Nat} {M : Mt} {pc : Nat} {ls : List (Option Value)} {st : List Value} {nc ns : Nat} {post : Option Value → AH → Prop} {h : AH} {a n : Nat} {f : Nat → Int32} {i x : Int32} (k : Nat) (hd : decode M.2.1 pc = .ok (.iastore, 1)) (hc : h[a]? = some (.inl (0, n, .inl f))) (hi : i = nI k) (hk : k < n) (hn : n < 2 ^ 31) (kk : ∀ H', H'[a]? = some (.inl (0, n, .inl (upd f k x))) → H'.length = h.length → (∀ y, y ≠ a → H'[y]? = h[y]?) → Ev D d M (pc + 1) ls st H' nc ns post) : Ev D d M pc ls (.int x :: .int i :: .ref a :: st) h nc ns post :=
  e_ist k hd hc hi hk hn (kk _ (getself hc) (List.length_set ..) (fun y e => List.getElem?_set_ne (fun q => e q.symm)))
theorem RI.cast {h H : AH} {a ci k : Nat} {rws rws' : Nat → AC} {fs : List Value} (R : RI h a ci rws k H fs) (e : ∀ i, i < k → rws' i = rws i) : RI h a ci rws' k H fs := ⟨R.1, R.2.1, fun i hi => by rw [e i hi]; exact R.2.2.1 i hi, R.2.2.2⟩
def zR (n : Nat) : AC := .inl (0, n, .inl (fun _ => 0))
def mr0 (T : Nat → Option Nat) (i : Nat) : AC := match i with
  | 0 => zR 408 | 1 => zR 408 | 2 => zR 408 | 3 => zR 6 | 4 => .inl (0, 7, .inl G0) | 5 => zR 8 | 6 => .inl (4, 3, .inr (.inr (.inr (.inr T)))) | 7 => zR 60 | 8 => zR 60 | 9 => .inl (0, 6, .inl rLo) | 10 => .inl (0, 6, .inl rHi) | 11 => zR 3 | 12 => zR 32 | 13 => zR 40 | 14 => zR 4 | 15 => zR 4 | 16 => zR 160 | _ => zR 40
theorem G0_eq : (upd (upd (upd (upd (upd (upd (upd (fun _ => 0) 0 (nI 1)) 1 (nI 5)) 2 (nI 3)) 3 (nI 5)) 4 (nI 2)) 5 (nI 4)) 6 (nI 3)) = G0 := by
  funext j
  by_cases h : j < 7
  · rcases (show j = 0 ∨ j = 1 ∨ j = 2 ∨ j = 3 ∨ j = 4 ∨ j = 5 ∨ j = 6 by omega) with rfl | rfl | rfl | rfl | rfl | rfl | rfl <;> decide
  · rw [pk_un (by omega), pk_un (by omega), pk_un (by omega), pk_un (by omega), pk_un (by omega), pk_un (by omega), pk_un (by omega)]
    unfold G0
    split <;> first | omega | rfl
theorem rLo_eq : (upd (upd (upd (upd (upd (upd (fun _ => 0) 0 (nI 0)) 1 (nI 0)) 2 (nI 0)) 3 (nI 0)) 4 (nI 0)) 5 (-9999999)) = rLo := by
  funext j
  by_cases h : j < 6
  · rcases (show j = 0 ∨ j = 1 ∨ j = 2 ∨ j = 3 ∨ j = 4 ∨ j = 5 by omega) with rfl | rfl | rfl | rfl | rfl | rfl <;> decide
  · rw [pk_un (by omega), pk_un (by omega), pk_un (by omega), pk_un (by omega), pk_un (by omega), pk_un (by omega)]
    unfold rLo
    rw [if_neg (by omega)]
theorem rHi_eq : (upd (upd (upd (upd (upd (upd (fun _ => 0) 0 (nI 20)) 1 (nI 50)) 2 (nI 50)) 3 (nI 50)) 4 (nI 9999)) 5 (nI 9999999)) = rHi := by
  funext j
  by_cases h : j < 6
  · rcases (show j = 0 ∨ j = 1 ∨ j = 2 ∨ j = 3 ∨ j = 4 ∨ j = 5 by omega) with rfl | rfl | rfl | rfl | rfl | rfl <;> decide
  · rw [pk_un (by omega), pk_un (by omega), pk_un (by omega), pk_un (by omega), pk_un (by omega), pk_un (by omega)]
    unfold rHi
    split <;> first | omega | rfl
/-- the state at the start -/
def s0 : SS := (N0, fun _ => 0, 0, fun _ => 0, ((fun _ => 0), 0), fun _ => 0, fun _ => 0, fun _ => 0)
set_option maxRecDepth 20000 in
theorem k_minit (D : En) {h : AH} (ho : h[82]? = some (.inr (12, [.null, .null, .null, .int 0, .null, .null, .null, .null, .int 0, .int 0, .int 0, .int 0, .null, .int 0, .null, .null, .null, .null, .null, .null, .int 0, .int 0, .null, .null, .null, .null]))) (hlen : h.length = 83) (hX : XH h) (hn : NR h) : Sp D 1 mX12_init [.ref 82] h 18 1663 none (fun h' => RefS h' s0 ∧ h'.length = 101 ∧ (∀ x, x < 82 → h'[x]? = h[x]?) ∧ NR h') := by
  have R0 : RI h 82 12 (mr0 (fun _ => none)) 0 h [.null, .null, .null, .int 0, .null, .null, .null, .null, .int 0, .int 0, .int 0, .int 0, .null, .int 0, .null, .null, .null, .null, .null, .null, .int 0, .int 0, .null, .null, .null, .null] := ⟨ho, hlen, fun i hi => by omega, fun _ _ => rfl, hn⟩
  obtain ⟨H0, hH0⟩ : ∃ z, z = h := ⟨_, rfl⟩
  intro post hp
  show Ev D 1 mX12_init 0 [some (.ref 82)] [] h 18 1663 post
  have R0 : RI h 82 12 (mr0 (fun _ => none)) 0 H0 [.null, .null, .null, .int 0, .null, .null, .null, .null, .int 0, .int 0, .int 0, .int 0, .null, .int 0, .null, .null, .null, .null, .null, .null, .int 0, .int 0, .null, .null, .null, .null] := by rw [hH0]; exact R0
  rw [show Ev D 1 mX12_init 0 [some (.ref 82)] [] h 18 1663 post = Ev D 1 mX12_init 0 [some (.ref 82)] [] H0 18 1663 post from by rw [hH0]]
  refine e_aload_n dX12_init_0 rfl ?_
  refine e_objInit dX12_init_1 oi_X12_3 (by decide) (Nat.le_of_ble_eq_true rfl) ?_
  refine e_aload_n dX12_init_4 rfl ?_
  refine e_sipush (nI 408) dX12_init_5 (by decide) ?_
  refine e_rowput (M := mX12_init) (nc := 17) (ns := 1255) 408 dX12_init_8 dX12_init_10 (by decide) fl_X12_9_12 ft_12 (fun q hq => Or.inr (by cases hq; exact ⟨rfl, rfl, rfl⟩)) R0.1 (by show _ < 26; decide) rfl rfl (fun H1 g1 g2 g3 g4 => ?_)
  have R1 := RI.new (fs' := [.ref H0.length, .null, .null, .int 0, .null, .null, .null, .null, .int 0, .int 0, .int 0, .int 0, .null, .int 0, .null, .null, .null, .null, .null, .null, .int 0, .int 0, .null, .null, .null, .null]) R0 (by decide) (fun gs e => by cases e) g1 g2 g3 g4
  rw [show H0.length = 83 from by rw [R0.2.1]] at R1
  clear g1 g2 g3 g4
  refine e_aload_n dX12_init_13 rfl ?_
  refine e_sipush (nI 408) dX12_init_14 (by decide) ?_
  refine e_rowput (M := mX12_init) (nc := 16) (ns := 847) 408 dX12_init_17 dX12_init_19 (by decide) fl_X12_13_12 ft_12 (fun q hq => Or.inr (by cases hq; exact ⟨rfl, rfl, rfl⟩)) R1.1 (by show _ < 26; decide) rfl rfl (fun H2 g1 g2 g3 g4 => ?_)
  have R2 := RI.new (fs' := [.ref 83, .ref H1.length, .null, .int 0, .null, .null, .null, .null, .int 0, .int 0, .int 0, .int 0, .null, .int 0, .null, .null, .null, .null, .null, .null, .int 0, .int 0, .null, .null, .null, .null]) R1 (by decide) (fun gs e => by cases e) g1 g2 g3 g4
  rw [show H1.length = 84 from by rw [R1.2.1]] at R2
  clear g1 g2 g3 g4
  refine e_aload_n dX12_init_22 rfl ?_
  refine e_sipush (nI 408) dX12_init_23 (by decide) ?_
  refine e_rowput (M := mX12_init) (nc := 15) (ns := 439) 408 dX12_init_26 dX12_init_28 (by decide) fl_X12_16_12 ft_12 (fun q hq => Or.inr (by cases hq; exact ⟨rfl, rfl, rfl⟩)) R2.1 (by show _ < 26; decide) rfl rfl (fun H3 g1 g2 g3 g4 => ?_)
  have R3 := RI.new (fs' := [.ref 83, .ref 84, .ref H2.length, .int 0, .null, .null, .null, .null, .int 0, .int 0, .int 0, .int 0, .null, .int 0, .null, .null, .null, .null, .null, .null, .int 0, .int 0, .null, .null, .null, .null]) R2 (by decide) (fun gs e => by cases e) g1 g2 g3 g4
  rw [show H2.length = 85 from by rw [R2.2.1]] at R3
  clear g1 g2 g3 g4
  refine e_aload_n dX12_init_31 rfl ?_
  refine e_bipush (nI 6) dX12_init_32 (by decide) ?_
  refine e_rowput (M := mX12_init) (nc := 14) (ns := 433) 6 dX12_init_34 dX12_init_36 (by decide) fl_X12_19_12 ft_12 (fun q hq => Or.inr (by cases hq; exact ⟨rfl, rfl, rfl⟩)) R3.1 (by show _ < 26; decide) rfl rfl (fun H4 g1 g2 g3 g4 => ?_)
  have R4 := RI.new (fs' := [.ref 83, .ref 84, .ref 85, .int 0, .ref H3.length, .null, .null, .null, .int 0, .int 0, .int 0, .int 0, .null, .int 0, .null, .null, .null, .null, .null, .null, .int 0, .int 0, .null, .null, .null, .null]) R3 (by decide) (fun gs e => by cases e) g1 g2 g3 g4
  rw [show H3.length = 86 from by rw [R3.2.1]] at R4
  clear g1 g2 g3 g4
  refine e_aload_n dX12_init_39 rfl ?_
  refine e_bipush (nI 7) dX12_init_40 (by decide) ?_
  refine e_newarray (M := mX12_init) (nc := 13) (ns := 426) 7 dX12_init_42 w_194 rfl (by decide) ?_
  refine e_dup dX12_init_44 rfl ?_
  refine e_iconst (nI 0) dX12_init_45 (by decide) ?_
  refine e_iconst (nI 1) dX12_init_46 (by decide) ?_
  refine e_ist 0 dX12_init_47 (gp_s rfl) rfl (by decide) (by decide) ?_
  rw [set_last]
  refine e_dup dX12_init_48 rfl ?_
  refine e_iconst (nI 1) dX12_init_49 (by decide) ?_
  refine e_iconst (nI 5) dX12_init_50 (by decide) ?_
  refine e_ist 1 dX12_init_51 (gp_s rfl) rfl (by decide) (by decide) ?_
  rw [set_last]
  refine e_dup dX12_init_52 rfl ?_
  refine e_iconst (nI 2) dX12_init_53 (by decide) ?_
  refine e_iconst (nI 3) dX12_init_54 (by decide) ?_
  refine e_ist 2 dX12_init_55 (gp_s rfl) rfl (by decide) (by decide) ?_
  rw [set_last]
  refine e_dup dX12_init_56 rfl ?_
  refine e_iconst (nI 3) dX12_init_57 (by decide) ?_
  refine e_iconst (nI 5) dX12_init_58 (by decide) ?_
  refine e_ist 3 dX12_init_59 (gp_s rfl) rfl (by decide) (by decide) ?_
  rw [set_last]
  refine e_dup dX12_init_60 rfl ?_
  refine e_iconst (nI 4) dX12_init_61 (by decide) ?_
  refine e_iconst (nI 2) dX12_init_62 (by decide) ?_
  refine e_ist 4 dX12_init_63 (gp_s rfl) rfl (by decide) (by decide) ?_
  rw [set_last]
  refine e_dup dX12_init_64 rfl ?_
  refine e_iconst (nI 5) dX12_init_65 (by decide) ?_
  refine e_iconst (nI 4) dX12_init_66 (by decide) ?_
  refine e_ist 5 dX12_init_67 (gp_s rfl) rfl (by decide) (by decide) ?_
  rw [set_last]
  refine e_dup dX12_init_68 rfl ?_
  refine e_bipush (nI 6) dX12_init_69 (by decide) ?_
  refine e_iconst (nI 3) dX12_init_71 (by decide) ?_
  refine e_ist 6 dX12_init_72 (gp_s rfl) rfl (by decide) (by decide) ?_
  rw [set_last]
  rw [G0_eq]
  refine e_fput dX12_init_73 fl_X12_22_12 ft_12 (fun q hq => Or.inr (by cases hq; exact ⟨rfl, rfl, rfl⟩)) (gp_l R4.1) (by show _ < 26; decide) rfl rfl (fun H5 g1 g7 g8 => ?_)
  have hal9 : 82 < H4.length := (List.getElem?_eq_some_iff.mp R4.1).1
  have g2 := (g8 H4.length (by omega)).trans (gp_s (c := .inl (0, 7, .inl G0)) rfl)
  have g3 : H5.length = H4.length + 1 := by rw [g7, List.length_append]; rfl
  have g4 : ∀ x, x < H4.length → x ≠ 82 → H5[x]? = H4[x]? := fun x h1 h2 => (g8 x h2).trans (List.getElem?_append_left h1)
  clear g7 g8
  have R5 := RI.new (fs' := [.ref 83, .ref 84, .ref 85, .int 0, .ref 86, .ref H4.length, .null, .null, .int 0, .int 0, .int 0, .int 0, .null, .int 0, .null, .null, .null, .null, .null, .null, .int 0, .int 0, .null, .null, .null, .null]) R4 (by decide) (fun gs e => by cases e) g1 g2 g3 g4
  rw [show H4.length = 87 from by rw [R4.2.1]] at R5
  clear g1 g2 g3 g4
  refine e_aload_n dX12_init_76 rfl ?_
  refine e_bipush (nI 8) dX12_init_77 (by decide) ?_
  refine e_rowput (M := mX12_init) (nc := 12) (ns := 418) 8 dX12_init_79 dX12_init_81 (by decide) fl_X12_25_12 ft_12 (fun q hq => Or.inr (by cases hq; exact ⟨rfl, rfl, rfl⟩)) R5.1 (by show _ < 26; decide) rfl rfl (fun H6 g1 g2 g3 g4 => ?_)
  have R6 := RI.new (fs' := [.ref 83, .ref 84, .ref 85, .int 0, .ref 86, .ref 87, .ref H5.length, .null, .int 0, .int 0, .int 0, .int 0, .null, .int 0, .null, .null, .null, .null, .null, .null, .int 0, .int 0, .null, .null, .null, .null]) R5 (by decide) (fun gs e => by cases e) g1 g2 g3 g4
  rw [show H5.length = 88 from by rw [R5.2.1]] at R6
  clear g1 g2 g3 g4
  refine e_aload_n dX12_init_84 rfl ?_
  refine e_iconst (nI 3) dX12_init_85 (by decide) ?_
  refine e_anewarray (M := mX12_init) (nc := 11) (ns := 415) 4 3 (Or.inr (Or.inr (Or.inr rfl))) dX12_init_86 w_1194 rfl (by decide) ?_
  refine e_dup dX12_init_89 rfl ?_
  refine e_iconst (nI 0) dX12_init_90 (by decide) ?_
  refine e_ldcS 4 (by decide) dX12_init_91 (fun s g9 => g9.2.2.2.1.2.2.2.1) ?_
  refine e_aas 0 dX12_init_93 (gp_s rfl) (Or.inr (Or.inr (Or.inr rfl))) (Or.inr ⟨rfl, by decide, _, gp_l ((R6.2.2.2.1 4 (by decide)).trans (hX 0 (by decide)).1)⟩) rfl (by decide) (by decide) (fun T0 k1_0 k2_0 => ?_)
  rw [set_last]
  refine e_dup dX12_init_94 rfl ?_
  refine e_iconst (nI 1) dX12_init_95 (by decide) ?_
  refine e_ldcS 5 (by decide) dX12_init_96 (fun s g9 => g9.2.2.2.1.2.2.2.2.1) ?_
  refine e_aas 1 dX12_init_98 (gp_s rfl) (Or.inr (Or.inr (Or.inr rfl))) (Or.inr ⟨rfl, by decide, _, gp_l ((R6.2.2.2.1 5 (by decide)).trans (hX 1 (by decide)).1)⟩) rfl (by decide) (by decide) (fun T1 k1_1 k2_1 => ?_)
  rw [set_last]
  refine e_dup dX12_init_99 rfl ?_
  refine e_iconst (nI 2) dX12_init_100 (by decide) ?_
  refine e_ldcS 6 (by decide) dX12_init_101 (fun s g9 => g9.2.2.2.1.2.2.2.2.2) ?_
  refine e_aas 2 dX12_init_103 (gp_s rfl) (Or.inr (Or.inr (Or.inr rfl))) (Or.inr ⟨rfl, by decide, _, gp_l ((R6.2.2.2.1 6 (by decide)).trans (hX 2 (by decide)).1)⟩) rfl (by decide) (by decide) (fun T2 k1_2 k2_2 => ?_)
  rw [set_last]
  have R6 := RI.cast (rws' := mr0 T2) R6 (fun i hi => by rcases (show i = 0 ∨ i = 1 ∨ i = 2 ∨ i = 3 ∨ i = 4 ∨ i = 5 by omega) with rfl | rfl | rfl | rfl | rfl | rfl <;> rfl)
  refine e_fput dX12_init_104 fl_X12_36_12 ft_12 (fun q hq => Or.inr (by cases hq; exact ⟨rfl, rfl, rfl⟩)) (gp_l R6.1) (by show _ < 26; decide) rfl rfl (fun H7 g1 g7 g8 => ?_)
  have hal9 : 82 < H6.length := (List.getElem?_eq_some_iff.mp R6.1).1
  have g2 := (g8 H6.length (by omega)).trans (gp_s (c := .inl (4, 3, .inr (.inr (.inr (.inr T2))))) rfl)
  have g3 : H7.length = H6.length + 1 := by rw [g7, List.length_append]; rfl
  have g4 : ∀ x, x < H6.length → x ≠ 82 → H7[x]? = H6[x]? := fun x h1 h2 => (g8 x h2).trans (List.getElem?_append_left h1)
  clear g7 g8
  have R7 := RI.new (fs' := [.ref 83, .ref 84, .ref 85, .int 0, .ref 86, .ref 87, .ref 88, .ref H6.length, .int 0, .int 0, .int 0, .int 0, .null, .int 0, .null, .null, .null, .null, .null, .null, .int 0, .int 0, .null, .null, .null, .null]) R6 (by decide) (fun gs e => by cases e) g1 g2 g3 g4
  rw [show H6.length = 89 from by rw [R6.2.1]] at R7
  clear g1 g2 g3 g4
  refine e_aload_n dX12_init_107 rfl ?_
  refine e_bipush (nI 60) dX12_init_108 (by decide) ?_
  refine e_rowput (M := mX12_init) (nc := 10) (ns := 355) 60 dX12_init_110 dX12_init_112 (by decide) fl_X12_40_12 ft_12 (fun q hq => Or.inr (by cases hq; exact ⟨rfl, rfl, rfl⟩)) R7.1 (by show _ < 26; decide) rfl rfl (fun H8 g1 g2 g3 g4 => ?_)
  have R8 := RI.new (fs' := [.ref 83, .ref 84, .ref 85, .int 0, .ref 86, .ref 87, .ref 88, .ref 89, .int 0, .int 0, .int 0, .int 0, .ref H7.length, .int 0, .null, .null, .null, .null, .null, .null, .int 0, .int 0, .null, .null, .null, .null]) R7 (by decide) (fun gs e => by cases e) g1 g2 g3 g4
  rw [show H7.length = 90 from by rw [R7.2.1]] at R8
  clear g1 g2 g3 g4
  refine e_aload_n dX12_init_115 rfl ?_
  refine e_bipush (nI 60) dX12_init_116 (by decide) ?_
  refine e_rowput (M := mX12_init) (nc := 9) (ns := 295) 60 dX12_init_118 dX12_init_120 (by decide) fl_X12_43_12 ft_12 (fun q hq => Or.inr (by cases hq; exact ⟨rfl, rfl, rfl⟩)) R8.1 (by show _ < 26; decide) rfl rfl (fun H9 g1 g2 g3 g4 => ?_)
  have R9 := RI.new (fs' := [.ref 83, .ref 84, .ref 85, .int 0, .ref 86, .ref 87, .ref 88, .ref 89, .int 0, .int 0, .int 0, .int 0, .ref 90, .int 0, .ref H8.length, .null, .null, .null, .null, .null, .int 0, .int 0, .null, .null, .null, .null]) R8 (by decide) (fun gs e => by cases e) g1 g2 g3 g4
  rw [show H8.length = 91 from by rw [R8.2.1]] at R9
  clear g1 g2 g3 g4
  refine e_aload_n dX12_init_123 rfl ?_
  refine e_bipush (nI 6) dX12_init_124 (by decide) ?_
  refine e_newarray (M := mX12_init) (nc := 8) (ns := 289) 6 dX12_init_126 w_194 rfl (by decide) ?_
  refine e_dup dX12_init_128 rfl ?_
  refine e_iconst (nI 0) dX12_init_129 (by decide) ?_
  refine e_iconst (nI 0) dX12_init_130 (by decide) ?_
  refine e_ist 0 dX12_init_131 (gp_s rfl) rfl (by decide) (by decide) ?_
  rw [set_last]
  refine e_dup dX12_init_132 rfl ?_
  refine e_iconst (nI 1) dX12_init_133 (by decide) ?_
  refine e_iconst (nI 0) dX12_init_134 (by decide) ?_
  refine e_ist 1 dX12_init_135 (gp_s rfl) rfl (by decide) (by decide) ?_
  rw [set_last]
  refine e_dup dX12_init_136 rfl ?_
  refine e_iconst (nI 2) dX12_init_137 (by decide) ?_
  refine e_iconst (nI 0) dX12_init_138 (by decide) ?_
  refine e_ist 2 dX12_init_139 (gp_s rfl) rfl (by decide) (by decide) ?_
  rw [set_last]
  refine e_dup dX12_init_140 rfl ?_
  refine e_iconst (nI 3) dX12_init_141 (by decide) ?_
  refine e_iconst (nI 0) dX12_init_142 (by decide) ?_
  refine e_ist 3 dX12_init_143 (gp_s rfl) rfl (by decide) (by decide) ?_
  rw [set_last]
  refine e_dup dX12_init_144 rfl ?_
  refine e_iconst (nI 4) dX12_init_145 (by decide) ?_
  refine e_iconst (nI 0) dX12_init_146 (by decide) ?_
  refine e_ist 4 dX12_init_147 (gp_s rfl) rfl (by decide) (by decide) ?_
  rw [set_last]
  refine e_dup dX12_init_148 rfl ?_
  refine e_iconst (nI 5) dX12_init_149 (by decide) ?_
  refine e_ldc dX12_init_150 w_1199 ?_
  refine e_ist 5 dX12_init_152 (gp_s rfl) rfl (by decide) (by decide) ?_
  rw [set_last]
  rw [rLo_eq]
  refine e_fput dX12_init_153 fl_X12_47_12 ft_12 (fun q hq => Or.inr (by cases hq; exact ⟨rfl, rfl, rfl⟩)) (gp_l R9.1) (by show _ < 26; decide) rfl rfl (fun H10 g1 g7 g8 => ?_)
  have hal9 : 82 < H9.length := (List.getElem?_eq_some_iff.mp R9.1).1
  have g2 := (g8 H9.length (by omega)).trans (gp_s (c := .inl (0, 6, .inl rLo)) rfl)
  have g3 : H10.length = H9.length + 1 := by rw [g7, List.length_append]; rfl
  have g4 : ∀ x, x < H9.length → x ≠ 82 → H10[x]? = H9[x]? := fun x h1 h2 => (g8 x h2).trans (List.getElem?_append_left h1)
  clear g7 g8
  have R10 := RI.new (fs' := [.ref 83, .ref 84, .ref 85, .int 0, .ref 86, .ref 87, .ref 88, .ref 89, .int 0, .int 0, .int 0, .int 0, .ref 90, .int 0, .ref 91, .ref H9.length, .null, .null, .null, .null, .int 0, .int 0, .null, .null, .null, .null]) R9 (by decide) (fun gs e => by cases e) g1 g2 g3 g4
  rw [show H9.length = 92 from by rw [R9.2.1]] at R10
  clear g1 g2 g3 g4
  refine e_aload_n dX12_init_156 rfl ?_
  refine e_bipush (nI 6) dX12_init_157 (by decide) ?_
  refine e_newarray (M := mX12_init) (nc := 7) (ns := 283) 6 dX12_init_159 w_194 rfl (by decide) ?_
  refine e_dup dX12_init_161 rfl ?_
  refine e_iconst (nI 0) dX12_init_162 (by decide) ?_
  refine e_bipush (nI 20) dX12_init_163 (by decide) ?_
  refine e_ist 0 dX12_init_165 (gp_s rfl) rfl (by decide) (by decide) ?_
  rw [set_last]
  refine e_dup dX12_init_166 rfl ?_
  refine e_iconst (nI 1) dX12_init_167 (by decide) ?_
  refine e_bipush (nI 50) dX12_init_168 (by decide) ?_
  refine e_ist 1 dX12_init_170 (gp_s rfl) rfl (by decide) (by decide) ?_
  rw [set_last]
  refine e_dup dX12_init_171 rfl ?_
  refine e_iconst (nI 2) dX12_init_172 (by decide) ?_
  refine e_bipush (nI 50) dX12_init_173 (by decide) ?_
  refine e_ist 2 dX12_init_175 (gp_s rfl) rfl (by decide) (by decide) ?_
  rw [set_last]
  refine e_dup dX12_init_176 rfl ?_
  refine e_iconst (nI 3) dX12_init_177 (by decide) ?_
  refine e_bipush (nI 50) dX12_init_178 (by decide) ?_
  refine e_ist 3 dX12_init_180 (gp_s rfl) rfl (by decide) (by decide) ?_
  rw [set_last]
  refine e_dup dX12_init_181 rfl ?_
  refine e_iconst (nI 4) dX12_init_182 (by decide) ?_
  refine e_sipush (nI 9999) dX12_init_183 (by decide) ?_
  refine e_ist 4 dX12_init_186 (gp_s rfl) rfl (by decide) (by decide) ?_
  rw [set_last]
  refine e_dup dX12_init_187 rfl ?_
  refine e_iconst (nI 5) dX12_init_188 (by decide) ?_
  refine e_ldc dX12_init_189 w_1200 ?_
  refine e_top (nI 9999999) (by decide) ?_
  refine e_ist 5 dX12_init_191 (gp_s rfl) rfl (by decide) (by decide) ?_
  rw [set_last]
  rw [rHi_eq]
  refine e_fput dX12_init_192 fl_X12_51_12 ft_12 (fun q hq => Or.inr (by cases hq; exact ⟨rfl, rfl, rfl⟩)) (gp_l R10.1) (by show _ < 26; decide) rfl rfl (fun H11 g1 g7 g8 => ?_)
  have hal9 : 82 < H10.length := (List.getElem?_eq_some_iff.mp R10.1).1
  have g2 := (g8 H10.length (by omega)).trans (gp_s (c := .inl (0, 6, .inl rHi)) rfl)
  have g3 : H11.length = H10.length + 1 := by rw [g7, List.length_append]; rfl
  have g4 : ∀ x, x < H10.length → x ≠ 82 → H11[x]? = H10[x]? := fun x h1 h2 => (g8 x h2).trans (List.getElem?_append_left h1)
  clear g7 g8
  have R11 := RI.new (fs' := [.ref 83, .ref 84, .ref 85, .int 0, .ref 86, .ref 87, .ref 88, .ref 89, .int 0, .int 0, .int 0, .int 0, .ref 90, .int 0, .ref 91, .ref 92, .ref H10.length, .null, .null, .null, .int 0, .int 0, .null, .null, .null, .null]) R10 (by decide) (fun gs e => by cases e) g1 g2 g3 g4
  rw [show H10.length = 93 from by rw [R10.2.1]] at R11
  clear g1 g2 g3 g4
  refine e_aload_n dX12_init_195 rfl ?_
  refine e_iconst (nI 3) dX12_init_196 (by decide) ?_
  refine e_rowput (M := mX12_init) (nc := 6) (ns := 280) 3 dX12_init_197 dX12_init_199 (by decide) fl_X12_54_12 ft_12 (fun q hq => Or.inr (by cases hq; exact ⟨rfl, rfl, rfl⟩)) R11.1 (by show _ < 26; decide) rfl rfl (fun H12 g1 g2 g3 g4 => ?_)
  have R12 := RI.new (fs' := [.ref 83, .ref 84, .ref 85, .int 0, .ref 86, .ref 87, .ref 88, .ref 89, .int 0, .int 0, .int 0, .int 0, .ref 90, .int 0, .ref 91, .ref 92, .ref 93, .ref H11.length, .null, .null, .int 0, .int 0, .null, .null, .null, .null]) R11 (by decide) (fun gs e => by cases e) g1 g2 g3 g4
  rw [show H11.length = 94 from by rw [R11.2.1]] at R12
  clear g1 g2 g3 g4
  refine e_aload_n dX12_init_202 rfl ?_
  refine e_bipush (nI 32) dX12_init_203 (by decide) ?_
  refine e_rowput (M := mX12_init) (nc := 5) (ns := 248) 32 dX12_init_205 dX12_init_207 (by decide) fl_X12_57_12 ft_12 (fun q hq => Or.inr (by cases hq; exact ⟨rfl, rfl, rfl⟩)) R12.1 (by show _ < 26; decide) rfl rfl (fun H13 g1 g2 g3 g4 => ?_)
  have R13 := RI.new (fs' := [.ref 83, .ref 84, .ref 85, .int 0, .ref 86, .ref 87, .ref 88, .ref 89, .int 0, .int 0, .int 0, .int 0, .ref 90, .int 0, .ref 91, .ref 92, .ref 93, .ref 94, .ref H12.length, .null, .int 0, .int 0, .null, .null, .null, .null]) R12 (by decide) (fun gs e => by cases e) g1 g2 g3 g4
  rw [show H12.length = 95 from by rw [R12.2.1]] at R13
  clear g1 g2 g3 g4
  refine e_aload_n dX12_init_210 rfl ?_
  refine e_bipush (nI 40) dX12_init_211 (by decide) ?_
  refine e_rowput (M := mX12_init) (nc := 4) (ns := 208) 40 dX12_init_213 dX12_init_215 (by decide) fl_X12_60_12 ft_12 (fun q hq => Or.inr (by cases hq; exact ⟨rfl, rfl, rfl⟩)) R13.1 (by show _ < 26; decide) rfl rfl (fun H14 g1 g2 g3 g4 => ?_)
  have R14 := RI.new (fs' := [.ref 83, .ref 84, .ref 85, .int 0, .ref 86, .ref 87, .ref 88, .ref 89, .int 0, .int 0, .int 0, .int 0, .ref 90, .int 0, .ref 91, .ref 92, .ref 93, .ref 94, .ref 95, .ref H13.length, .int 0, .int 0, .null, .null, .null, .null]) R13 (by decide) (fun gs e => by cases e) g1 g2 g3 g4
  rw [show H13.length = 96 from by rw [R13.2.1]] at R14
  clear g1 g2 g3 g4
  refine e_aload_n dX12_init_218 rfl ?_
  refine e_iconst (nI 4) dX12_init_219 (by decide) ?_
  refine e_rowput (M := mX12_init) (nc := 3) (ns := 204) 4 dX12_init_220 dX12_init_222 (by decide) fl_X12_63_12 ft_12 (fun q hq => Or.inr (by cases hq; exact ⟨rfl, rfl, rfl⟩)) R14.1 (by show _ < 26; decide) rfl rfl (fun H15 g1 g2 g3 g4 => ?_)
  have R15 := RI.new (fs' := [.ref 83, .ref 84, .ref 85, .int 0, .ref 86, .ref 87, .ref 88, .ref 89, .int 0, .int 0, .int 0, .int 0, .ref 90, .int 0, .ref 91, .ref 92, .ref 93, .ref 94, .ref 95, .ref 96, .int 0, .int 0, .ref H14.length, .null, .null, .null]) R14 (by decide) (fun gs e => by cases e) g1 g2 g3 g4
  rw [show H14.length = 97 from by rw [R14.2.1]] at R15
  clear g1 g2 g3 g4
  refine e_aload_n dX12_init_225 rfl ?_
  refine e_iconst (nI 4) dX12_init_226 (by decide) ?_
  refine e_rowput (M := mX12_init) (nc := 2) (ns := 200) 4 dX12_init_227 dX12_init_229 (by decide) fl_X12_66_12 ft_12 (fun q hq => Or.inr (by cases hq; exact ⟨rfl, rfl, rfl⟩)) R15.1 (by show _ < 26; decide) rfl rfl (fun H16 g1 g2 g3 g4 => ?_)
  have R16 := RI.new (fs' := [.ref 83, .ref 84, .ref 85, .int 0, .ref 86, .ref 87, .ref 88, .ref 89, .int 0, .int 0, .int 0, .int 0, .ref 90, .int 0, .ref 91, .ref 92, .ref 93, .ref 94, .ref 95, .ref 96, .int 0, .int 0, .ref 97, .ref H15.length, .null, .null]) R15 (by decide) (fun gs e => by cases e) g1 g2 g3 g4
  rw [show H15.length = 98 from by rw [R15.2.1]] at R16
  clear g1 g2 g3 g4
  refine e_aload_n dX12_init_232 rfl ?_
  refine e_sipush (nI 160) dX12_init_233 (by decide) ?_
  refine e_rowput (M := mX12_init) (nc := 1) (ns := 40) 160 dX12_init_236 dX12_init_238 (by decide) fl_X12_69_12 ft_12 (fun q hq => Or.inr (by cases hq; exact ⟨rfl, rfl, rfl⟩)) R16.1 (by show _ < 26; decide) rfl rfl (fun H17 g1 g2 g3 g4 => ?_)
  have R17 := RI.new (fs' := [.ref 83, .ref 84, .ref 85, .int 0, .ref 86, .ref 87, .ref 88, .ref 89, .int 0, .int 0, .int 0, .int 0, .ref 90, .int 0, .ref 91, .ref 92, .ref 93, .ref 94, .ref 95, .ref 96, .int 0, .int 0, .ref 97, .ref 98, .ref H16.length, .null]) R16 (by decide) (fun gs e => by cases e) g1 g2 g3 g4
  rw [show H16.length = 99 from by rw [R16.2.1]] at R17
  clear g1 g2 g3 g4
  refine e_aload_n dX12_init_241 rfl ?_
  refine e_bipush (nI 40) dX12_init_242 (by decide) ?_
  refine e_rowput (M := mX12_init) (nc := 0) (ns := 0) 40 dX12_init_244 dX12_init_246 (by decide) fl_X12_72_12 ft_12 (fun q hq => Or.inr (by cases hq; exact ⟨rfl, rfl, rfl⟩)) R17.1 (by show _ < 26; decide) rfl rfl (fun H18 g1 g2 g3 g4 => ?_)
  have R18 := RI.new (fs' := [.ref 83, .ref 84, .ref 85, .int 0, .ref 86, .ref 87, .ref 88, .ref 89, .int 0, .int 0, .int 0, .int 0, .ref 90, .int 0, .ref 91, .ref 92, .ref 93, .ref 94, .ref 95, .ref 96, .int 0, .int 0, .ref 97, .ref 98, .ref 99, .ref H17.length]) R17 (by decide) (fun gs e => by cases e) g1 g2 g3 g4
  rw [show H17.length = 100 from by rw [R17.2.1]] at R18
  clear g1 g2 g3 g4
  have c9 := R18.1
  have v9 : H18[83]? = some (.inl (0, 408, .inl (fun _ => 0))) := R18.2.2.1 0 (by decide)
  have f9 : ∀ x, x ≠ 83 → H18[x]? = H18[x]? := fun _ _ => rfl
  have l9 : H18.length = 101 := R18.2.1
  refine e_aload_n dX12_init_249 rfl ?_
  refine e_get dX12_init_250 fl_X12_9_12 c9 rfl ?_
  refine e_iconst (nI 5) dX12_init_253 (by decide) ?_
  refine e_iconst (nI 1) dX12_init_254 (by decide) ?_
  refine e_istA 5 dX12_init_255 v9 rfl (by decide) (by decide) (fun V0 v9 l8 f8 => ?_)
  have c9 := (f8 82 (by decide)).trans c9
  have f9 : ∀ x, x ≠ 83 → V0[x]? = H18[x]? := fun x hx => (f8 x hx).trans (f9 x hx)
  have l9 : V0.length = 101 := l8.trans l9
  clear l8 f8
  refine e_aload_n dX12_init_256 rfl ?_
  refine e_get dX12_init_257 fl_X12_9_12 c9 rfl ?_
  refine e_bipush (nI 6) dX12_init_260 (by decide) ?_
  refine e_iconst (nI 2) dX12_init_262 (by decide) ?_
  refine e_istA 6 dX12_init_263 v9 rfl (by decide) (by decide) (fun V1 v9 l8 f8 => ?_)
  have c9 := (f8 82 (by decide)).trans c9
  have f9 : ∀ x, x ≠ 83 → V1[x]? = H18[x]? := fun x hx => (f8 x hx).trans (f9 x hx)
  have l9 : V1.length = 101 := l8.trans l9
  clear l8 f8
  refine e_aload_n dX12_init_264 rfl ?_
  refine e_get dX12_init_265 fl_X12_9_12 c9 rfl ?_
  refine e_bipush (nI 7) dX12_init_268 (by decide) ?_
  refine e_iconst (nI 3) dX12_init_270 (by decide) ?_
  refine e_istA 7 dX12_init_271 v9 rfl (by decide) (by decide) (fun V2 v9 l8 f8 => ?_)
  have c9 := (f8 82 (by decide)).trans c9
  have f9 : ∀ x, x ≠ 83 → V2[x]? = H18[x]? := fun x hx => (f8 x hx).trans (f9 x hx)
  have l9 : V2.length = 101 := l8.trans l9
  clear l8 f8
  refine e_aload_n dX12_init_272 rfl ?_
  refine e_get dX12_init_273 fl_X12_9_12 c9 rfl ?_
  refine e_bipush (nI 8) dX12_init_276 (by decide) ?_
  refine e_bipush (nI 6) dX12_init_278 (by decide) ?_
  refine e_istA 8 dX12_init_280 v9 rfl (by decide) (by decide) (fun V3 v9 l8 f8 => ?_)
  have c9 := (f8 82 (by decide)).trans c9
  have f9 : ∀ x, x ≠ 83 → V3[x]? = H18[x]? := fun x hx => (f8 x hx).trans (f9 x hx)
  have l9 : V3.length = 101 := l8.trans l9
  clear l8 f8
  refine e_aload_n dX12_init_281 rfl ?_
  refine e_get dX12_init_282 fl_X12_9_12 c9 rfl ?_
  refine e_bipush (nI 9) dX12_init_285 (by decide) ?_
  refine e_iconst (nI 3) dX12_init_287 (by decide) ?_
  refine e_istA 9 dX12_init_288 v9 rfl (by decide) (by decide) (fun V4 v9 l8 f8 => ?_)
  have c9 := (f8 82 (by decide)).trans c9
  have f9 : ∀ x, x ≠ 83 → V4[x]? = H18[x]? := fun x hx => (f8 x hx).trans (f9 x hx)
  have l9 : V4.length = 101 := l8.trans l9
  clear l8 f8
  refine e_aload_n dX12_init_289 rfl ?_
  refine e_get dX12_init_290 fl_X12_9_12 c9 rfl ?_
  refine e_bipush (nI 10) dX12_init_293 (by decide) ?_
  refine e_iconst (nI 5) dX12_init_295 (by decide) ?_
  refine e_istA 10 dX12_init_296 v9 rfl (by decide) (by decide) (fun V5 v9 l8 f8 => ?_)
  have c9 := (f8 82 (by decide)).trans c9
  have f9 : ∀ x, x ≠ 83 → V5[x]? = H18[x]? := fun x hx => (f8 x hx).trans (f9 x hx)
  have l9 : V5.length = 101 := l8.trans l9
  clear l8 f8
  refine e_aload_n dX12_init_297 rfl ?_
  refine e_get dX12_init_298 fl_X12_9_12 c9 rfl ?_
  refine e_bipush (nI 11) dX12_init_301 (by decide) ?_
  refine e_bipush (nI 100) dX12_init_303 (by decide) ?_
  refine e_istA 11 dX12_init_305 v9 rfl (by decide) (by decide) (fun V6 v9 l8 f8 => ?_)
  have c9 := (f8 82 (by decide)).trans c9
  have f9 : ∀ x, x ≠ 83 → V6[x]? = H18[x]? := fun x hx => (f8 x hx).trans (f9 x hx)
  have l9 : V6.length = 101 := l8.trans l9
  clear l8 f8
  refine e_vret dX12_init_306 rfl (hp _ ⟨⟨(fun i => match i with | 4 => G0 | 9 => rLo | 10 => rHi | _ => fun _ => 0), fun _ => 0, ⟨c9, v9, fun i h1 h2 h6 => ?_, ⟨T2, fun i hi => ?_, (f9 89 (by decide)).trans (R18.2.2.1 6 (by decide))⟩, hX.same (fun x hx => (f9 x (by omega)).trans (R18.2.2.2.1 x (by omega)))⟩, ⟨rfl, rfl, rfl, rfl, rfl, rfl⟩, ⟨rfl, rfl, rfl⟩, rfl, rfl, Nat.zero_le _⟩, l9, fun x hx => (f9 x (by omega)).trans (R18.2.2.2.1 x hx), fun r gs hr => ?_⟩)
  · rw [f9 _ (by omega)]
    have q := R18.2.2.1 i h1
    rw [show 82 + 1 + i = 83 + i by omega] at q
    rw [q]
    rcases (show i = 1 ∨ i = 2 ∨ i = 3 ∨ i = 4 ∨ i = 5 ∨ i = 7 ∨ i = 8 ∨ i = 9 ∨ i = 10 ∨ i = 11 ∨ i = 12 ∨ i = 13 ∨ i = 14 ∨ i = 15 ∨ i = 16 ∨ i = 17 by omega) with rfl | rfl | rfl | rfl | rfl | rfl | rfl | rfl | rfl | rfl | rfl | rfl | rfl | rfl | rfl | rfl <;> rfl
  · rcases (show i = 0 ∨ i = 1 ∨ i = 2 by omega) with rfl | rfl | rfl
    · rw [k2_2 0 (by decide), k2_1 0 (by decide), k1_0]
    · rw [k2_2 1 (by decide), k1_1]
    · rw [k1_2]
  · by_cases e : r = 83
    · rw [e, v9] at hr; cases hr
    · rw [f9 r e] at hr; exact R18.2.2.2.2 r gs hr
