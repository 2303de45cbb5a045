set_option maxRecDepth 20000 in
theorem lw_all (D : En) {post : Option Value → AH → Prop} {L : Nat} {xs : Nat → Int32} (hL : L ≤ 384) (hp : ∀ h', post (some (.int (nI 1))) h') {h : AH} (hlen : h.length = 11) (hS : h[0]? = some (.inl (6, L, .inl xs))) (hX : CX h) {f3 : Nat → Int32} (h3 : h[3]? = some (.inl (6, 6, .inl f3))) (hf3 : ∀ k, k < 6 → f3 k = N0 (7 + k)) (hn : NR h) : Ev D 50 mL_law 0 [some (.ref 0), none, none, none] [] h 346 9458 post := by
  refine e_new (M := mL_law) (N := 8) (nc := 345) (ns := 9450) dL_law_0 nw_L_7 ft_11 rfl ?_
  refine e_dup dL_law_3 rfl ?_
  rw [hlen]
  refine c_I0v (nc := 275) (ns := 8601) (mc := 70) (ms := 849) (N := mX11_init) dL_law_4 li_L_9 mo_X11_init (Nat.le_of_ble_eq_true rfl) (Nat.le_of_ble_eq_true rfl) (by decide) (k_einit D (gp_s hlen.symm) rfl (by rw [List.length_append, hlen]; rfl) (gp_l h3) hf3 (hn.push (fun fs q => by cases q))) (fun h1 hZ => ?_)
  have l1 : h1.length = 82 := hZ.2.2.2.2.2.2.2.2.2.2.1
  have n1 : NR h1 := hZ.2.2.2.2.2.2.2.2.2.1
  have w1 : ∀ x, x < 11 → h1[x]? = h[x]? := fun x hx => (hZ.2.2.2.2.2.2.2.2.2.2.2 x hx).trans (List.getElem?_append_left (by omega))
  refine e_astore_n dL_law_7 (by decide) ?_
  refine e_new (M := mL_law) (N := 26) (nc := 274) (ns := 8575) dL_law_8 nw_L_10 ft_12 rfl ?_
  refine e_dup dL_law_11 rfl ?_
  rw [l1]
  refine c_I0v (nc := 256) (ns := 6912) (mc := 18) (ms := 1663) (N := mX12_init) dL_law_12 li_L_12 mo_X12_init (Nat.le_of_ble_eq_true rfl) (Nat.le_of_ble_eq_true rfl) (by decide) (k_minit D (gp_s l1.symm) (by rw [List.length_append, l1]; rfl) (hX.1.same (fun x hx => (List.getElem?_append_left (by omega)).trans (w1 x hx))) (n1.push (fun fs q => by cases q))) (fun h2 hU => ?_)
  obtain ⟨hR, l2, u2, n2⟩ := hU
  have w2 : ∀ x, x < 82 → h2[x]? = h1[x]? := fun x hx => (u2 x hx).trans (List.getElem?_append_left (by omega))
  have hC : ClsS h2 s0 := cls_0 hZ w2 l2 n2 (hX.same (fun x hx => (w2 x (by omega)).trans (w1 x hx)))
  refine e_astore_n dL_law_15 (by decide) ?_
  refine e_iconst (nI 0) dL_law_16 (by decide) ?_
  refine e_istore_n dL_law_17 (by decide) ?_
  exact lw_loop D hL hp 64 0 h2 s0 (by omega) (by decide) (((w2 0 (by decide)).trans (w1 0 (by decide))).trans hS) hC hR INV_0
