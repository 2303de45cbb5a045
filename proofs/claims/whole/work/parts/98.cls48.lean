theorem ClsS.tz {h : AH} {s : SS} (hC : ClsS h s) (hI : IN (sN s)) {f : Nat → Int32} {z b : Int32} (hr : RW h 25 50 f z b) : ClsS (h.set 25 (.inr (5, [.ref 26, .int (nI 0), .int b]))) (wN s (upd (sN s) 3 (nI 0))) := by
  refine hC.tape hI (FO.rf.set (Or.inl rfl)) (KL.up (by omega)) (pk_un (by omega)) (pk_un (by omega)) (fun i hi => pk_un (by omega)) ⟨f, b, ?_, fun i hi => ?_⟩
  · rw [pk_us]; exact ⟨getself hr.1, getset hr.2 (by decide)⟩
  · have e : tlN (upd (sN s) 3 (nI 0)) = 0 := by
      show tn (upd (sN s) 3 (nI 0) 3) = 0
      rw [pk_us]; rfl
    rw [e] at hi
    omega
theorem txM3 {N : Nat → Int32} {y : PT} {u : Nat} : txM (upd N 3 (nI 0)) y u = txM N y u := by unfold txM; rw [upd2]
theorem KT.tx {N : Nat → Int32} {y : PT} {u : Nat} : KT (upd N 3 (nI 0)) (txM N y u) := by
  have key : ∀ j, j < 252 → txM N y u j = upd N 3 (nI 0) j := fun j hj => by
    rw [txM_get, if_neg (by omega), if_neg (by omega)]
    by_cases e : j = 3
    · rw [if_pos e, e, pk_us]
    · rw [if_neg e, pk_un e]
  exact ⟨fun j a b => key j (by omega), fun j a b => key j (by omega)⟩
theorem tc_tx {N : Nat → Int32} {y : PT} {u : Nat} : tcN (txM N y u) = tcN N := by
  unfold tcN
  rw [txM_get, if_neg (by omega), if_neg (by omega), if_neg (by omega)]
theorem tape_ok {N : Nat → Int32} {u : Nat} : ¬ ((tapeT N u).2.1 = true ∨ (tapeT N u).1 < tlN N) → (tapeT N u).2.2.length ≤ tlN N ∧ (∀ q, q ∈ (tapeT N u).2.2 → WQ u q) ∧ ∀ a b c d, ∃ v, stk a b c d (tapeT N u).2.2 [] = some [v] := by
  unfold tapeT
  intro hb
  exact txP_ok hb
theorem tape_le (N : Nat → Int32) (u : Nat) : (tapeT N u).1 ≤ tlN N := by
  unfold tapeT txP
  exact (GR_ei (tp := tpR N) (GR_on (tpR N) (tlN N) u 5) (0, false, [])).2.1 (Nat.zero_le _)
set_option maxRecDepth 20000 in
theorem cp_text (D : En) {h : AH} {s : SS} (hI : INV s) (hC : ClsS h s) (u : Int32) : Sp D 47 mX11_text [.ref (11), .int (u)] h 4 108 (some (.int (f_text s u).1)) (fun h' => ClsS h' (f_text s u).2 ∧ FrC h h') := by
  have hY := hI.1.1
  have hnv := hY.2.1
  have htc10 := hY.2.2.2.1
  obtain ⟨h00, hh00⟩ : ∃ z, z = h := ⟨_, rfl⟩
  have hF : FrC h00 h := by rw [hh00]; exact FrC.rf
  intro post hp
  rw [← hh00] at hp
  show Ev D 47 mX11_text 0 [some (.ref (11)), some (.int (u)), none, none] [] h 4 108 post
  refine e_iload_n dX11_text_0 rfl ?_
  refine e_iconst (nI (0)) dX11_text_1 (by decide) ?_
  refine e_iconst (nI (2)) dX11_text_2 (by decide) ?_
  refine c_S3iR (N := mX11_within) dX11_text_3 ls_X11_72 mo_X11_within  (Nat.le_of_ble_eq_true rfl) (Nat.le_of_ble_eq_true rfl) (by decide) (c_within D ((u)) (nI (0)) (nI (2))) ?_
  refine e_if_neB 15 dX11_text_6 (by decide) (fun hcq6 => ?_) (fun hcq6 => ?_)
  · obtain ⟨hn_u, hg_u, hl_u⟩ := wiN hcq6 (by decide) (by decide)
    refine e_new (M := mX11_text) (N := 5) (nc := 3) (ns := 103) dX11_text_15 nw_X11_193 ft_6 rfl ?_
    refine e_dup dX11_text_18 rfl ?_
    refine e_iload_n dX11_text_19 rfl ?_
    refine e_top (nI (tn u)) hn_u ?_
    refine c_I1v (nc := 0) (ns := 0) (mc := 3) (ms := 103) (N := mX6_init) dX11_text_20 li_X11_195 mo_X6_init (Nat.le_of_ble_eq_true rfl) (Nat.le_of_ble_eq_true rfl) (by decide) (k_rule D (u := tn u) (by omega) (gp_s rfl) rfl (by rw [List.length_append]; rfl)) (fun h1 hP => ?_)
    obtain ⟨p1, p2, p3, p4, p5⟩ := hP
    have ql : ∀ x, x < h.length → h1[x]? = h[x]? := fun x hx => (p5 x hx).trans (List.getElem?_append_left hx)
    have h97 := hC.len
    have hB1 : RB h1 := hC.rb.grow ql hC.len p4 p1 p2.1 p2.2 p3
    have hC1 : ClsS h1 s := hC.grow (by omega) ql hB1
    refine e_astore_n dX11_text_23 (by decide) ?_
    refine e_aload_n dX11_text_24 rfl ?_
    refine e_aload_n dX11_text_25 rfl ?_
    refine e_get dX11_text_26 fl_X11_10_11 hC1.1 rfl ?_
    refine e_get dX11_text_29 fl_X11_187_2 hC1.2.1.1 rfl ?_
    obtain ⟨ft, bt, hRP, hPe⟩ := hC1.2.1.2.2.2.1
    rw [hI.1.2.1.1] at hRP
    have ht50 := hI.1.2.1.2
    have hX : CT0 h1 h.length (tn u) (tlN (sN s)) (tpR (sN s)) := ⟨hC.len, by omega, hI.1.2.1.2, ⟨ft, bt, hRP, hPe⟩, hC1.cx.1, fun i hi => hI.1.2.2.2.1.2.2.2.1 i (by omega)⟩
    have hA : PAc h1 h.length (tn u) h1 (0, false, []) := ⟨p1, ⟨_, 0, _, p2, by decide, fun _ => ⟨rfl, fun i hi => absurd hi (Nat.not_lt_zero i)⟩⟩, rfl, fun _ _ _ _ => rfl⟩
    refine c_V1i (nc := 0) (ns := 0) (mc := 0) (ms := 0) (N := mX6_readFrom) dX11_text_32 lv_X11_196 mo_X6_readFrom hA.cn (Nat.le_of_ble_eq_true rfl) (Nat.le_of_ble_eq_true rfl) (by decide) (k_readFrom D hX hA) (fun h2 hP => ?_)
    have hP : PAc h1 h.length (tn u) h2 (rfY (tlN (sN s)) (tapeT (sN s) (tn u))) := hP
    refine e_top (rfV (tlN (sN s)) (tapeT (sN s) (tn u))) rfl ?_
    have hok := tape_ok (N := sN s) (u := tn u)
    have hy9 := tape_le (sN s) (tn u)
    have e9b : ((tapeT (sN s) (tn u)).2.1 = true ∨ (tapeT (sN s) (tn u)).1 < tlN (sN s)) → f_text s u = ((-10) - nI (tapeT (sN s) (tn u)).1, wN s (upd (sN s) 3 (nI 0))) := fun hbad => by rw [f_text, if_pos hcq6, if_pos hbad]
    have e9g : ¬ ((tapeT (sN s) (tn u)).2.1 = true ∨ (tapeT (sN s) (tn u)).1 < tlN (sN s)) → f_text s u = (nI 1, wN s (txM (sN s) (tapeT (sN s) (tn u)) (tn u))) := fun hbad => by rw [f_text, if_pos hcq6, if_neg hbad, txW]
    obtain ⟨y, hy⟩ : ∃ z, z = tapeT (sN s) (tn u) := ⟨_, rfl⟩
    rw [← hy] at hok
    rw [← hy] at hy9
    rw [← hy] at e9b
    rw [← hy] at e9g
    rw [← hy] at hP
    rw [← hy]
    clear hy
    obtain ⟨g1, ⟨fs, zs, bs, g2, g3, g4⟩, g5, g6⟩ := hP
    have ql2 : ∀ x, x < h.length → h2[x]? = h[x]? := fun x hx => (g6 x (by omega) (by omega) (by omega)).trans (ql x hx)
    have hcq3 := (g6 (h.length + 3) (by omega) (by omega) (by omega)).trans p3
    have hl2 : h2.length = h.length + 4 := g5.trans p4
    have hB2 : RB h2 := hC.rb.grow ql2 hC.len hl2 g1 g2.1 g2.2 hcq3
    have hC2 : ClsS h2 s := hC.grow (by omega) ql2 hB2
    have hF2 : FrC h00 h2 := hF.trans ⟨by omega, fun x hx => ql2 x (by omega)⟩
    have hRP2 := hRP.same (g6 25 (by omega) (by omega) (by omega)) (g6 (25 + 1) (by omega) (by omega) (by omega))
    refine e_istore_n dX11_text_35 (by decide) ?_
    refine e_aload_n dX11_text_36 rfl ?_
    refine e_get dX11_text_37 fl_X11_10_11 hC2.1 rfl ?_
    refine e_get dX11_text_40 fl_X11_187_2 hC2.2.1.1 rfl ?_
    refine e_iconst (nI 0) dX11_text_43 (by decide) ?_
    refine e_put dX11_text_44 fl_X11_93_5 ft_5 (fun q hq => Or.inl (by cases hq; rfl)) hRP2.1 (by show _ < 3; decide) rfl rfl ?_
    have hF3 := hF2.set (c := .inr (5, [.ref 26, .int (nI 0), .int bt])) (show 11 ≤ 25 by decide) (show 25 < 82 by decide)
    have hC3 := hC2.tz hI.1 hRP2
    have g13 := getset (b := 25) (c := .inr (5, [.ref 26, .int (nI 0), .int bt])) g1 (by omega)
    have g23 := g2.same (h' := h2.set 25 (.inr (5, [.ref 26, .int (nI 0), .int bt]))) (List.getElem?_set_ne (by omega)) (List.getElem?_set_ne (by omega))
    have hcq33 := getset (b := 25) (c := .inr (5, [.ref 26, .int (nI 0), .int bt])) hcq3 (by omega)
    have hfix : (lset (lset [some (Value.ref 11), some (Value.int u), none, none] 2 (Value.ref h.length)) 3 (Value.int (rfV (tlN (sN s)) y))) = [some (Value.ref 11), some (Value.int u), some (Value.ref h.length), some (Value.int (rfV (tlN (sN s)) y))] := rfl
    change Ev D 47 mX11_text 47 [some (.ref 11), some (.int u), some (.ref h.length), some (.int (rfV (tlN (sN s)) y))] [] (h2.set 25 (.inr (5, [.ref 26, .int (nI 0), .int bt]))) 0 0 post
    obtain ⟨h3, hh3⟩ : ∃ z, z = h2.set 25 (.inr (5, [.ref 26, .int (nI 0), .int bt])) := ⟨_, rfl⟩
    rw [← hh3] at hF3
    rw [← hh3] at hC3
    rw [← hh3] at g13
    rw [← hh3] at g23
    rw [← hh3] at hcq33
    rw [← hh3]
    refine e_iload_n dX11_text_47 rfl ?_
    by_cases hbad : y.2.1 = true ∨ y.1 < tlN (sN s)
    · have ev : rfV (tlN (sN s)) y = nI y.1 := by unfold rfV; rw [if_pos hbad]
      refine e_top (nI y.1) ev ?_
      refine e_if_ltN (tgt := 56) dX11_text_48 (by decide) (by omega) ?_
      refine e_bipush (-10) dX11_text_51 (by decide) ?_
      refine e_iload_n dX11_text_53 rfl ?_
      refine e_top (nI y.1) ev ?_
      refine e_isub dX11_text_54 ?_
      have e9 := e9b hbad
      rw [e9] at hp
      exact e_iret dX11_text_55 rfl (hp _ ⟨hC3, hF3⟩)
    · have ev : rfV (tlN (sN s)) y = -1 := by unfold rfV; rw [if_neg hbad]
      have ey : rfY (tlN (sN s)) y = y := by unfold rfY; rw [if_neg (fun z => hbad (Or.inr z.2))]
      have ewf : y.2.1 = false := nt (fun z => hbad (Or.inl z))
      rw [ey] at g4
      rw [ey] at g13
      obtain ⟨z1, z2⟩ := g4 ewf
      obtain ⟨o1, o2, o3⟩ := hok hbad
      have hne : y.2.2 ≠ [] := fun z => by
        obtain ⟨v, hv⟩ := o3 0 0 0 0
        rw [z] at hv
        cases hv
      have hRA : RuleAt h3 h.length (tn u) y.2.2 := ⟨hC.len, ⟨_, _, g13⟩, ⟨bs, by rw [← z1]; exact g23.1⟩, ⟨fs, g23.2, fun i hi => z2 i (by omega)⟩, ⟨_, hcq33⟩⟩
      have hI3 : IN (upd (sN s) 3 (nI 0)) := IN_tl hI.1 (by decide)
      refine e_top (-1) ev ?_
      refine e_if_lt 56 dX11_text_48 (by decide) (fun hc => ?_) (fun hc => absurd (by decide) hc)
      refine e_aload_n dX11_text_56 rfl ?_
      refine e_get dX11_text_57 fl_X11_10_11 hC3.1 rfl ?_
      refine e_get dX11_text_60 fl_X11_58_2 hC3.2.1.1 rfl ?_
      refine e_get dX11_text_63 fl_X11_200_4 hC3.2.1.2.1.1 rfl ?_
      refine e_iload_n dX11_text_66 rfl ?_
      refine e_top (nI (tn u)) hn_u ?_
      refine e_aload_n dX11_text_67 rfl ?_
      obtain ⟨R8, hr8, he8⟩ := hC3.L.1.2.2.2.2.2.2.2.2.1
      refine e_aas (tn u) dX11_text_68 hr8 (Or.inr (Or.inl rfl)) (Or.inl ⟨6, _, g13, as_rule⟩) rfl (by omega) (by decide) (fun R9 k1 k2 => ?_)
      have hLA := hC3.L.1.tx hI3 (by decide) (y := y) (by omega) (Nat.le_trans o1 hI.1.2.1.2) (fun q hq => (o2 q hq).1) hne (show upd (sN s) 3 (nI 0) 3 = nI 0 from pk_us) hr8 k1 k2 hRA
      rw [show txM (sN (wN s (upd (sN s) 3 (nI 0)))) y (tn u) = txM (sN s) y (tn u) from txM3] at hLA
      have hC4 := hC3.land hI3 (FZ.st (a := 13) (j := 13 + 9) (by decide)) (hC3.L.set (by decide) (fun fs e => by cases e) hLA) (by rw [tc_tx]; exact (show TN h3 13 (tcN (sN s)) from tc_up (N := sN s) (k := 3) (x := nI 0) (by decide) ▸ hC3.T).same (List.getElem?_set_ne (by decide))) KT.tx
      refine e_iconst (nI 1) dX11_text_69 (by decide) ?_
      have e9 := e9g hbad
      rw [e9] at hp
      exact e_iret dX11_text_70 rfl (hp _ ⟨hC4, hF3.set (show 11 ≤ 13 + 9 by decide) (show 13 + 9 < 82 by decide)⟩)
  · refine e_aload_n dX11_text_9 rfl ?_
    refine e_iconst (nI (1)) dX11_text_10 (by decide) ?_
    refine c_V1i (nc := 4) (ns := 108) (mc := 0) (ms := 0) (N := mX11_error) dX11_text_11 lv_X11_54 mo_X11_error hC.cn (Nat.le_of_ble_eq_true rfl) (Nat.le_of_ble_eq_true rfl) (by decide) (c_error D hC 1 (by decide)) (fun h hP => ?_)
    obtain ⟨hC, hF1⟩ := hP
    have hF := hF.trans hF1
    have e9 : f_text s u = er 1 (s) := by rw [f_text, if_neg hcq6]
    rw [e9] at hp
    exact e_iret dX11_text_14 rfl (hp _ ⟨hC, hF⟩)
