theorem IN_N0 : IN N0 := by
  refine ⟨⟨by rw [nv_0, N0_z (by omega)]; rfl, by rw [nv_0]; decide, by rw [tc_0, N0_z (by omega)]; rfl, by rw [tc_0]; decide, fun t ht => by rw [tc_0] at ht; omega, fun u hu => ?_⟩, ?_, ?_, ⟨fun v hv w hw => ?_, fun a ha b hb => ?_, fun t ht => ?_, fun i hi => ?_, fun k hk => ?_⟩, fun u hu q hq => ?_⟩
  · rw [tx_0]
    exact ⟨by decide, by rw [N0_z (by omega)]; rfl, fun i hi => absurd hi (Nat.not_lt_zero i), Or.inl rfl⟩
  · have e : tlN N0 = 0 := by unfold tlN; rw [N0_z (by omega)]; rfl
    rw [e, N0_z (by omega)]
    exact ⟨rfl, by decide⟩
  · have e : wlN N0 = 0 := by unfold wlN; rw [N0_z (by omega)]; rfl
    rw [e, N0_z (by omega)]
    exact ⟨rfl, by decide⟩
  · rw [N0_z (by omega)]; exact rg_nI (a := 0) (by decide) (by decide)
  · rw [N0_z (by omega), N0_z (by omega)]; exact ⟨rg_nI (a := 0) (by decide) (by decide), rfl⟩
  · rw [N0_z (by omega), N0_z (by omega)]; exact ⟨rg_nI (a := 0) (by decide) (by decide), rg_nI (a := 0) (by decide) (by decide)⟩
  · rw [N0_z (by omega)]; exact rg_nI (a := 0) (by decide) (by decide)
  · rcases (show k = 0 ∨ k = 1 ∨ k = 2 ∨ k = 3 by omega) with rfl | rfl | rfl | rfl
    · exact rg_nI (a := 3) (by decide) (by decide)
    · exact rg_nI (a := 6) (by decide) (by decide)
    · exact rg_nI (a := 3) (by decide) (by decide)
    · exact rg_nI (a := 5) (by decide) (by decide)
  · rw [tx_0] at hq
    cases hq
theorem INV_0 : INV s0 := ⟨IN_N0, Or.inl rfl, fun i hi => ⟨rfl, show tn (0 : Int32) ≤ 40 by decide⟩⟩
theorem cls_0 {h h1 h2 : AH} (hZ : CLZ h h1) (hU : ∀ x, x < 82 → h2[x]? = h1[x]?) (hl : h2.length = 101) (hn : NR h2) (hX : CX h2) : ClsS h2 s0 := by
  obtain ⟨c1, c2, c3, c4, c5, ⟨T, t1, t2⟩, c7, c8, c9, c10, c11, c12⟩ := hZ
  have g : HG h1 h2 := hgv (by omega)
  have D28 := c3.hg c10.rb g (fun x a b => hU x (by omega))
  refine ⟨(hU 11 (by decide)).trans c1, c2.hg c10.rb g (fun x a b => hU x (by omega)), ⟨D28.shp, fun q => absurd rfl q⟩, (c4.hg c10.rb g (fun x a b => hU x (by omega))).shp, (c5.hg c10.rb g (fun x a b => hU x (by omega))).shp, ⟨T, (hU 70 (by decide)).trans t1, t2⟩, ⟨_, _, c7.same (hU 71 (by decide)) (hU 72 (by decide)), Nat.zero_le _, fun i hi => absurd hi (Nat.not_lt_zero i)⟩, (hU 73 (by decide)).trans c8, fun q hq => ⟨_, (c9 q hq).same (hU _ (by omega)) (hU _ (by omega)), fun i hi => rfl⟩, hn.rb, hX, by omega⟩
theorem RefS.fr {h h' : AH} {s : SS} (hR : RefS h s) (hF : FrC h h') : RefS h' s := by
  obtain ⟨σ, τ, ⟨a1, a2, a3, ⟨g, g1, g2⟩, a5⟩, S⟩ := hR
  exact ⟨σ, τ, ⟨(hF.2 82 (by omega)).trans a1, (hF.2 83 (by omega)).trans a2, fun i h1 h2 h3 => (hF.2 _ (by omega)).trans (a3 i h1 h2 h3), ⟨g, g1, (hF.2 89 (by omega)).trans g2⟩, a5.same (fun x hx => hF.2 x (Or.inl hx))⟩, S⟩
theorem RefS.cn {h : AH} {s : SS} (hR : RefS h s) : CN h 82 RX12 := by
  obtain ⟨σ, τ, q, -⟩ := hR
  exact q.cn
theorem ClsS.fr {h h' : AH} {s : SS} (hC : ClsS h s) (hR : RefS h' s) (hF : FrR h h') : ClsS h' s := by
  have hB : RB h' := by
    obtain ⟨σ, τ, ⟨a1, a2, a3, ⟨g, g1, g2⟩, a5⟩, S⟩ := hR
    intro r fs hr
    by_cases e : 82 ≤ r ∧ r < 101
    · exfalso
      by_cases e1 : r = 82
      · rw [e1] at hr; cases a1.symm.trans hr
      by_cases e2 : r = 83
      · rw [e2] at hr; cases a2.symm.trans hr
      by_cases e3 : r = 89
      · rw [e3] at hr; cases g2.symm.trans hr
      have := a3 (r - 83) (by omega) (by omega) (by omega)
      rw [show 83 + (r - 83) = r by omega] at this
      cases this.symm.trans hr
    · rw [hF.2 r (by omega)] at hr
      obtain ⟨q1, ⟨gs, q2⟩, ⟨c, q3⟩, ⟨p, q4⟩⟩ := hC.rb r fs hr
      exact ⟨q1, ⟨gs, (hF.2 _ (by omega)).trans q2⟩, ⟨c, (hF.2 _ (by omega)).trans q3⟩, ⟨p, (hF.2 _ (by omega)).trans q4⟩⟩
  exact hC.mv (fun x => 82 ≤ x) (fun x c a b => Or.inl ((hF.2 x (by omega)).trans b)) hB (by rw [hF.1]; exact Nat.le_refl _) (fun x a b => hF.2 x (by omega)) (fun x a b => by omega) (Or.inl ⟨by omega, rfl⟩) (Or.inl ⟨fun x _ _ => by omega, rfl⟩) (Or.inl ⟨fun x _ _ => by omega, rfl, rfl⟩) (Or.inl (fun x _ _ => by omega)) (Or.inl (fun x _ _ => by omega)) (by omega) (Or.inl ⟨by omega, by omega, rfl⟩) (Or.inl ⟨by omega, rfl⟩) (Or.inl ⟨fun x _ _ => by omega, rfl, rfl, rfl⟩)
set_option maxRecDepth 20000 in
theorem lc_0 (D : En) {post : Option Value → AH → Prop} {L : Nat} {xs : Nat → Int32} {n i : Nat} (hi : i + 6 ≤ L) (hL : L ≤ 384) {h : AH} {s : SS} (hS : h[0]? = some (.inl (6, L, .inl xs))) (hC : ClsS h s) (hR : RefS h s) (hI : INV s) (kk : ∀ h' s', h'[0]? = some (.inl (6, L, .inl xs)) → ClsS h' s' → RefS h' s' → INV s' → Ev D 50 mL_law 1703 [some (.ref 0), some (.ref 11), some (.ref 82), some (.int (nI i))] [] h' (4 * n) (108 * n) post) : Ev D 50 mL_law 228 [some (.ref 0), some (.ref 11), some (.ref 82), some (.int (nI i))] [] h (4 * n + 4) (108 * n + 108) post := by
  refine e_aload_n dL_law_228 rfl ?_
  refine e_aload_n dL_law_229 rfl ?_
  refine e_iload_n dL_law_230 rfl ?_
  refine e_iconst (nI 1) dL_law_231 (by decide) ?_
  refine e_iaddN dL_law_232 ?_
  refine e_ildX (i + 1) (xs (i + 1)) dL_law_233 hS (by decide) rfl (by omega) (by omega) rfl ?_
  refine e_aload_n dL_law_234 rfl ?_
  refine e_iload_n dL_law_235 rfl ?_
  refine e_iconst (nI 2) dL_law_236 (by decide) ?_
  refine e_iaddN dL_law_237 ?_
  refine e_ildX (i + 2) (xs (i + 2)) dL_law_238 hS (by decide) rfl (by omega) (by omega) rfl ?_
  refine e_aload_n dL_law_239 rfl ?_
  refine e_iload_n dL_law_240 rfl ?_
  refine e_iconst (nI 3) dL_law_241 (by decide) ?_
  refine e_iaddN dL_law_242 ?_
  refine e_ildX (i + 3) (xs (i + 3)) dL_law_243 hS (by decide) rfl (by omega) (by omega) rfl ?_
  refine e_aload_n dL_law_244 rfl ?_
  refine e_iload_n dL_law_245 rfl ?_
  refine e_iconst (nI 4) dL_law_246 (by decide) ?_
  refine e_iaddN dL_law_247 ?_
  refine e_ildX (i + 4) (xs (i + 4)) dL_law_248 hS (by decide) rfl (by omega) (by omega) rfl ?_
  refine c_V4i (nc := 4 * n) (ns := 108 * n) (mc := 4) (ms := 108) (N := mX11_village) dL_law_249 lv_L_13 mo_X11_village hC.cn (Nat.le_of_ble_eq_true rfl) (Nat.le_of_ble_eq_true rfl) (by decide) ((cp_village D hI hC (xs (i + 1)) (xs (i + 2)) (xs (i + 3)) (xs (i + 4))).more (by decide) (by decide)) (fun h1 hP => ?_)
  obtain ⟨hC1, hF1⟩ := hP
  have hS1 := (hF1.2 0 (Or.inl (by decide))).trans hS
  have hR1 := hR.fr hF1
  refine e_aload_n dL_law_252 rfl ?_
  refine e_aload_n dL_law_253 rfl ?_
  refine e_iload_n dL_law_254 rfl ?_
  refine e_iconst (nI 1) dL_law_255 (by decide) ?_
  refine e_iaddN dL_law_256 ?_
  refine e_ildX (i + 1) (xs (i + 1)) dL_law_257 hS1 (by decide) rfl (by omega) (by omega) rfl ?_
  refine e_aload_n dL_law_258 rfl ?_
  refine e_iload_n dL_law_259 rfl ?_
  refine e_iconst (nI 2) dL_law_260 (by decide) ?_
  refine e_iaddN dL_law_261 ?_
  refine e_ildX (i + 2) (xs (i + 2)) dL_law_262 hS1 (by decide) rfl (by omega) (by omega) rfl ?_
  refine e_aload_n dL_law_263 rfl ?_
  refine e_iload_n dL_law_264 rfl ?_
  refine e_iconst (nI 3) dL_law_265 (by decide) ?_
  refine e_iaddN dL_law_266 ?_
  refine e_ildX (i + 3) (xs (i + 3)) dL_law_267 hS1 (by decide) rfl (by omega) (by omega) rfl ?_
  refine e_aload_n dL_law_268 rfl ?_
  refine e_iload_n dL_law_269 rfl ?_
  refine e_iconst (nI 4) dL_law_270 (by decide) ?_
  refine e_iaddN dL_law_271 ?_
  refine e_ildX (i + 4) (xs (i + 4)) dL_law_272 hS1 (by decide) rfl (by omega) (by omega) rfl ?_
  refine c_V4i (nc := 4 * n) (ns := 108 * n) (mc := 0) (ms := 0) (N := mX12_village) dL_law_273 lv_L_17 mo_X12_village hR1.cn (Nat.le_of_ble_eq_true rfl) (Nat.le_of_ble_eq_true rfl) (by decide) (rp_village D hI hR1 (xs (i + 1)) (xs (i + 2)) (xs (i + 3)) (xs (i + 4))) (fun h2 hP => ?_)
  obtain ⟨hR2, hF2⟩ := hP
  have hC2 := hC1.fr hR2 hF2
  refine e_icmp_eq 1703 dL_law_276 (by decide) (fun hc => ?_) (fun hc => absurd rfl hc)
  exact kk h2 _ ((hF2.2 0 (Or.inl (by decide))).trans hS1) hC2 hR2 (i_village hI (xs (i + 1)) (xs (i + 2)) (xs (i + 3)) (xs (i + 4)))
set_option maxRecDepth 20000 in
theorem lc_1 (D : En) {post : Option Value → AH → Prop} {L : Nat} {xs : Nat → Int32} {n i : Nat} (hi : i + 6 ≤ L) (hL : L ≤ 384) {h : AH} {s : SS} (hS : h[0]? = some (.inl (6, L, .inl xs))) (hC : ClsS h s) (hR : RefS h s) (hI : INV s) (kk : ∀ h' s', h'[0]? = some (.inl (6, L, .inl xs)) → ClsS h' s' → RefS h' s' → INV s' → Ev D 50 mL_law 1703 [some (.ref 0), some (.ref 11), some (.ref 82), some (.int (nI i))] [] h' (4 * n) (108 * n) post) : Ev D 50 mL_law 281 [some (.ref 0), some (.ref 11), some (.ref 82), some (.int (nI i))] [] h (4 * n + 4) (108 * n + 108) post := by
  refine e_aload_n dL_law_281 rfl ?_
  refine e_aload_n dL_law_282 rfl ?_
  refine e_iload_n dL_law_283 rfl ?_
  refine e_iconst (nI 1) dL_law_284 (by decide) ?_
  refine e_iaddN dL_law_285 ?_
  refine e_ildX (i + 1) (xs (i + 1)) dL_law_286 hS (by decide) rfl (by omega) (by omega) rfl ?_
  refine e_aload_n dL_law_287 rfl ?_
  refine e_iload_n dL_law_288 rfl ?_
  refine e_iconst (nI 2) dL_law_289 (by decide) ?_
  refine e_iaddN dL_law_290 ?_
  refine e_ildX (i + 2) (xs (i + 2)) dL_law_291 hS (by decide) rfl (by omega) (by omega) rfl ?_
  refine c_V2i (nc := 4 * n) (ns := 108 * n) (mc := 4) (ms := 108) (N := mX11_people) dL_law_292 lv_L_18 mo_X11_people hC.cn (Nat.le_of_ble_eq_true rfl) (Nat.le_of_ble_eq_true rfl) (by decide) ((cp_people D hI hC (xs (i + 1)) (xs (i + 2))).more (by decide) (by decide)) (fun h1 hP => ?_)
  obtain ⟨hC1, hF1⟩ := hP
  have hS1 := (hF1.2 0 (Or.inl (by decide))).trans hS
  have hR1 := hR.fr hF1
  refine e_aload_n dL_law_295 rfl ?_
  refine e_aload_n dL_law_296 rfl ?_
  refine e_iload_n dL_law_297 rfl ?_
  refine e_iconst (nI 1) dL_law_298 (by decide) ?_
  refine e_iaddN dL_law_299 ?_
  refine e_ildX (i + 1) (xs (i + 1)) dL_law_300 hS1 (by decide) rfl (by omega) (by omega) rfl ?_
  refine e_aload_n dL_law_301 rfl ?_
  refine e_iload_n dL_law_302 rfl ?_
  refine e_iconst (nI 2) dL_law_303 (by decide) ?_
  refine e_iaddN dL_law_304 ?_
  refine e_ildX (i + 2) (xs (i + 2)) dL_law_305 hS1 (by decide) rfl (by omega) (by omega) rfl ?_
  refine c_V2i (nc := 4 * n) (ns := 108 * n) (mc := 0) (ms := 0) (N := mX12_people) dL_law_306 lv_L_22 mo_X12_people hR1.cn (Nat.le_of_ble_eq_true rfl) (Nat.le_of_ble_eq_true rfl) (by decide) (rp_people D hI hR1 (xs (i + 1)) (xs (i + 2))) (fun h2 hP => ?_)
  obtain ⟨hR2, hF2⟩ := hP
  have hC2 := hC1.fr hR2 hF2
  refine e_icmp_eq 1703 dL_law_309 (by decide) (fun hc => ?_) (fun hc => absurd rfl hc)
  exact kk h2 _ ((hF2.2 0 (Or.inl (by decide))).trans hS1) hC2 hR2 (i_people hI (xs (i + 1)) (xs (i + 2)))
set_option maxRecDepth 20000 in
theorem lc_2 (D : En) {post : Option Value → AH → Prop} {L : Nat} {xs : Nat → Int32} {n i : Nat} (hi : i + 6 ≤ L) (hL : L ≤ 384) {h : AH} {s : SS} (hS : h[0]? = some (.inl (6, L, .inl xs))) (hC : ClsS h s) (hR : RefS h s) (hI : INV s) (kk : ∀ h' s', h'[0]? = some (.inl (6, L, .inl xs)) → ClsS h' s' → RefS h' s' → INV s' → Ev D 50 mL_law 1703 [some (.ref 0), some (.ref 11), some (.ref 82), some (.int (nI i))] [] h' (4 * n) (108 * n) post) : Ev D 50 mL_law 314 [some (.ref 0), some (.ref 11), some (.ref 82), some (.int (nI i))] [] h (4 * n + 4) (108 * n + 108) post := by
  refine e_aload_n dL_law_314 rfl ?_
  refine e_aload_n dL_law_315 rfl ?_
  refine e_iload_n dL_law_316 rfl ?_
  refine e_iconst (nI 1) dL_law_317 (by decide) ?_
  refine e_iaddN dL_law_318 ?_
  refine e_ildX (i + 1) (xs (i + 1)) dL_law_319 hS (by decide) rfl (by omega) (by omega) rfl ?_
  refine e_aload_n dL_law_320 rfl ?_
  refine e_iload_n dL_law_321 rfl ?_
  refine e_iconst (nI 2) dL_law_322 (by decide) ?_
  refine e_iaddN dL_law_323 ?_
  refine e_ildX (i + 2) (xs (i + 2)) dL_law_324 hS (by decide) rfl (by omega) (by omega) rfl ?_
  refine e_aload_n dL_law_325 rfl ?_
  refine e_iload_n dL_law_326 rfl ?_
  refine e_iconst (nI 3) dL_law_327 (by decide) ?_
  refine e_iaddN dL_law_328 ?_
  refine e_ildX (i + 3) (xs (i + 3)) dL_law_329 hS (by decide) rfl (by omega) (by omega) rfl ?_
  refine c_V3i (nc := 4 * n) (ns := 108 * n) (mc := 4) (ms := 108) (N := mX11_become) dL_law_330 lv_L_23 mo_X11_become hC.cn (Nat.le_of_ble_eq_true rfl) (Nat.le_of_ble_eq_true rfl) (by decide) ((cp_become D hI hC (xs (i + 1)) (xs (i + 2)) (xs (i + 3))).more (by decide) (by decide)) (fun h1 hP => ?_)
  obtain ⟨hC1, hF1⟩ := hP
  have hS1 := (hF1.2 0 (Or.inl (by decide))).trans hS
  have hR1 := hR.fr hF1
  refine e_aload_n dL_law_333 rfl ?_
  refine e_aload_n dL_law_334 rfl ?_
  refine e_iload_n dL_law_335 rfl ?_
  refine e_iconst (nI 1) dL_law_336 (by decide) ?_
  refine e_iaddN dL_law_337 ?_
  refine e_ildX (i + 1) (xs (i + 1)) dL_law_338 hS1 (by decide) rfl (by omega) (by omega) rfl ?_
  refine e_aload_n dL_law_339 rfl ?_
  refine e_iload_n dL_law_340 rfl ?_
  refine e_iconst (nI 2) dL_law_341 (by decide) ?_
  refine e_iaddN dL_law_342 ?_
  refine e_ildX (i + 2) (xs (i + 2)) dL_law_343 hS1 (by decide) rfl (by omega) (by omega) rfl ?_
  refine e_aload_n dL_law_344 rfl ?_
  refine e_iload_n dL_law_345 rfl ?_
  refine e_iconst (nI 3) dL_law_346 (by decide) ?_
  refine e_iaddN dL_law_347 ?_
  refine e_ildX (i + 3) (xs (i + 3)) dL_law_348 hS1 (by decide) rfl (by omega) (by omega) rfl ?_
  refine c_V3i (nc := 4 * n) (ns := 108 * n) (mc := 0) (ms := 0) (N := mX12_become) dL_law_349 lv_L_27 mo_X12_become hR1.cn (Nat.le_of_ble_eq_true rfl) (Nat.le_of_ble_eq_true rfl) (by decide) (rp_become D hI hR1 (xs (i + 1)) (xs (i + 2)) (xs (i + 3))) (fun h2 hP => ?_)
  obtain ⟨hR2, hF2⟩ := hP
  have hC2 := hC1.fr hR2 hF2
  refine e_icmp_eq 1703 dL_law_352 (by decide) (fun hc => ?_) (fun hc => absurd rfl hc)
  exact kk h2 _ ((hF2.2 0 (Or.inl (by decide))).trans hS1) hC2 hR2 (i_become hI (xs (i + 1)) (xs (i + 2)) (xs (i + 3)))
set_option maxRecDepth 20000 in
theorem lc_3 (D : En) {post : Option Value → AH → Prop} {L : Nat} {xs : Nat → Int32} {n i : Nat} (hi : i + 6 ≤ L) (hL : L ≤ 384) {h : AH} {s : SS} (hS : h[0]? = some (.inl (6, L, .inl xs))) (hC : ClsS h s) (hR : RefS h s) (hI : INV s) (kk : ∀ h' s', h'[0]? = some (.inl (6, L, .inl xs)) → ClsS h' s' → RefS h' s' → INV s' → Ev D 50 mL_law 1703 [some (.ref 0), some (.ref 11), some (.ref 82), some (.int (nI i))] [] h' (4 * n) (108 * n) post) : Ev D 50 mL_law 357 [some (.ref 0), some (.ref 11), some (.ref 82), some (.int (nI i))] [] h (4 * n + 4) (108 * n + 108) post := by
  refine e_aload_n dL_law_357 rfl ?_
  refine e_aload_n dL_law_358 rfl ?_
  refine e_iload_n dL_law_359 rfl ?_
  refine e_iconst (nI 1) dL_law_360 (by decide) ?_
  refine e_iaddN dL_law_361 ?_
  refine e_ildX (i + 1) (xs (i + 1)) dL_law_362 hS (by decide) rfl (by omega) (by omega) rfl ?_
  refine c_V1i (nc := 4 * n) (ns := 108 * n) (mc := 4) (ms := 108) (N := mX11_villages) dL_law_363 lv_L_28 mo_X11_villages hC.cn (Nat.le_of_ble_eq_true rfl) (Nat.le_of_ble_eq_true rfl) (by decide) ((cp_villages D hI hC (xs (i + 1))).more (by decide) (by decide)) (fun h1 hP => ?_)
  obtain ⟨hC1, hF1⟩ := hP
  have hS1 := (hF1.2 0 (Or.inl (by decide))).trans hS
  have hR1 := hR.fr hF1
  refine e_aload_n dL_law_366 rfl ?_
  refine e_aload_n dL_law_367 rfl ?_
  refine e_iload_n dL_law_368 rfl ?_
  refine e_iconst (nI 1) dL_law_369 (by decide) ?_
  refine e_iaddN dL_law_370 ?_
  refine e_ildX (i + 1) (xs (i + 1)) dL_law_371 hS1 (by decide) rfl (by omega) (by omega) rfl ?_
  refine c_V1i (nc := 4 * n) (ns := 108 * n) (mc := 0) (ms := 0) (N := mX12_villages) dL_law_372 lv_L_32 mo_X12_villages hR1.cn (Nat.le_of_ble_eq_true rfl) (Nat.le_of_ble_eq_true rfl) (by decide) (rp_villages D hI hR1 (xs (i + 1))) (fun h2 hP => ?_)
  obtain ⟨hR2, hF2⟩ := hP
  have hC2 := hC1.fr hR2 hF2
  refine e_icmp_eq 1703 dL_law_375 (by decide) (fun hc => ?_) (fun hc => absurd rfl hc)
  exact kk h2 _ ((hF2.2 0 (Or.inl (by decide))).trans hS1) hC2 hR2 (i_villages hI (xs (i + 1)))
set_option maxRecDepth 20000 in
theorem lc_4 (D : En) {post : Option Value → AH → Prop} {L : Nat} {xs : Nat → Int32} {n i : Nat} (hi : i + 6 ≤ L) (hL : L ≤ 384) {h : AH} {s : SS} (hS : h[0]? = some (.inl (6, L, .inl xs))) (hC : ClsS h s) (hR : RefS h s) (hI : INV s) (kk : ∀ h' s', h'[0]? = some (.inl (6, L, .inl xs)) → ClsS h' s' → RefS h' s' → INV s' → Ev D 50 mL_law 1703 [some (.ref 0), some (.ref 11), some (.ref 82), some (.int (nI i))] [] h' (4 * n) (108 * n) post) : Ev D 50 mL_law 380 [some (.ref 0), some (.ref 11), some (.ref 82), some (.int (nI i))] [] h (4 * n + 4) (108 * n + 108) post := by
  refine e_aload_n dL_law_380 rfl ?_
  refine e_aload_n dL_law_381 rfl ?_
  refine e_iload_n dL_law_382 rfl ?_
  refine e_iconst (nI 1) dL_law_383 (by decide) ?_
  refine e_iaddN dL_law_384 ?_
  refine e_ildX (i + 1) (xs (i + 1)) dL_law_385 hS (by decide) rfl (by omega) (by omega) rfl ?_
  refine c_V1i (nc := 4 * n) (ns := 108 * n) (mc := 4) (ms := 108) (N := mX11_made) dL_law_386 lv_L_33 mo_X11_made hC.cn (Nat.le_of_ble_eq_true rfl) (Nat.le_of_ble_eq_true rfl) (by decide) ((cp_made D hI hC (xs (i + 1))).more (by decide) (by decide)) (fun h1 hP => ?_)
  obtain ⟨hC1, hF1⟩ := hP
  have hS1 := (hF1.2 0 (Or.inl (by decide))).trans hS
  have hR1 := hR.fr hF1
  refine e_aload_n dL_law_389 rfl ?_
  refine e_aload_n dL_law_390 rfl ?_
  refine e_iload_n dL_law_391 rfl ?_
  refine e_iconst (nI 1) dL_law_392 (by decide) ?_
  refine e_iaddN dL_law_393 ?_
  refine e_ildX (i + 1) (xs (i + 1)) dL_law_394 hS1 (by decide) rfl (by omega) (by omega) rfl ?_
  refine c_V1i (nc := 4 * n) (ns := 108 * n) (mc := 0) (ms := 0) (N := mX12_made) dL_law_395 lv_L_36 mo_X12_made hR1.cn (Nat.le_of_ble_eq_true rfl) (Nat.le_of_ble_eq_true rfl) (by decide) (rp_made D hI hR1 (xs (i + 1))) (fun h2 hP => ?_)
  obtain ⟨hR2, hF2⟩ := hP
  have hC2 := hC1.fr hR2 hF2
  refine e_icmp_eq 1703 dL_law_398 (by decide) (fun hc => ?_) (fun hc => absurd rfl hc)
  exact kk h2 _ ((hF2.2 0 (Or.inl (by decide))).trans hS1) hC2 hR2 (i_made hI (xs (i + 1)))
set_option maxRecDepth 20000 in
theorem lc_5 (D : En) {post : Option Value → AH → Prop} {L : Nat} {xs : Nat → Int32} {n i : Nat} (hi : i + 6 ≤ L) (hL : L ≤ 384) {h : AH} {s : SS} (hS : h[0]? = some (.inl (6, L, .inl xs))) (hC : ClsS h s) (hR : RefS h s) (hI : INV s) (kk : ∀ h' s', h'[0]? = some (.inl (6, L, .inl xs)) → ClsS h' s' → RefS h' s' → INV s' → Ev D 50 mL_law 1703 [some (.ref 0), some (.ref 11), some (.ref 82), some (.int (nI i))] [] h' (4 * n) (108 * n) post) : Ev D 50 mL_law 403 [some (.ref 0), some (.ref 11), some (.ref 82), some (.int (nI i))] [] h (4 * n + 4) (108 * n + 108) post := by
  refine e_aload_n dL_law_403 rfl ?_
  refine e_aload_n dL_law_404 rfl ?_
  refine e_iload_n dL_law_405 rfl ?_
  refine e_iconst (nI 1) dL_law_406 (by decide) ?_
  refine e_iaddN dL_law_407 ?_
  refine e_ildX (i + 1) (xs (i + 1)) dL_law_408 hS (by decide) rfl (by omega) (by omega) rfl ?_
  refine c_V1i (nc := 4 * n) (ns := 108 * n) (mc := 4) (ms := 108) (N := mX11_pace) dL_law_409 lv_L_37 mo_X11_pace hC.cn (Nat.le_of_ble_eq_true rfl) (Nat.le_of_ble_eq_true rfl) (by decide) ((cp_pace D hI hC (xs (i + 1))).more (by decide) (by decide)) (fun h1 hP => ?_)
  obtain ⟨hC1, hF1⟩ := hP
  have hS1 := (hF1.2 0 (Or.inl (by decide))).trans hS
  have hR1 := hR.fr hF1
  refine e_aload_n dL_law_412 rfl ?_
  refine e_aload_n dL_law_413 rfl ?_
  refine e_iload_n dL_law_414 rfl ?_
  refine e_iconst (nI 1) dL_law_415 (by decide) ?_
  refine e_iaddN dL_law_416 ?_
  refine e_ildX (i + 1) (xs (i + 1)) dL_law_417 hS1 (by decide) rfl (by omega) (by omega) rfl ?_
  refine c_V1i (nc := 4 * n) (ns := 108 * n) (mc := 0) (ms := 0) (N := mX12_pace) dL_law_418 lv_L_40 mo_X12_pace hR1.cn (Nat.le_of_ble_eq_true rfl) (Nat.le_of_ble_eq_true rfl) (by decide) (rp_pace D hI hR1 (xs (i + 1))) (fun h2 hP => ?_)
  obtain ⟨hR2, hF2⟩ := hP
  have hC2 := hC1.fr hR2 hF2
  refine e_icmp_eq 1703 dL_law_421 (by decide) (fun hc => ?_) (fun hc => absurd rfl hc)
  exact kk h2 _ ((hF2.2 0 (Or.inl (by decide))).trans hS1) hC2 hR2 (i_pace hI (xs (i + 1)))
set_option maxRecDepth 20000 in
theorem lc_6 (D : En) {post : Option Value → AH → Prop} {L : Nat} {xs : Nat → Int32} {n i : Nat} (hi : i + 6 ≤ L) (hL : L ≤ 384) {h : AH} {s : SS} (hS : h[0]? = some (.inl (6, L, .inl xs))) (hC : ClsS h s) (hR : RefS h s) (hI : INV s) (kk : ∀ h' s', h'[0]? = some (.inl (6, L, .inl xs)) → ClsS h' s' → RefS h' s' → INV s' → Ev D 50 mL_law 1703 [some (.ref 0), some (.ref 11), some (.ref 82), some (.int (nI i))] [] h' (4 * n) (108 * n) post) : Ev D 50 mL_law 426 [some (.ref 0), some (.ref 11), some (.ref 82), some (.int (nI i))] [] h (4 * n + 4) (108 * n + 108) post := by
  refine e_aload_n dL_law_426 rfl ?_
  refine e_aload_n dL_law_427 rfl ?_
  refine e_iload_n dL_law_428 rfl ?_
  refine e_iconst (nI 1) dL_law_429 (by decide) ?_
  refine e_iaddN dL_law_430 ?_
  refine e_ildX (i + 1) (xs (i + 1)) dL_law_431 hS (by decide) rfl (by omega) (by omega) rfl ?_
  refine e_aload_n dL_law_432 rfl ?_
  refine e_iload_n dL_law_433 rfl ?_
  refine e_iconst (nI 2) dL_law_434 (by decide) ?_
  refine e_iaddN dL_law_435 ?_
  refine e_ildX (i + 2) (xs (i + 2)) dL_law_436 hS (by decide) rfl (by omega) (by omega) rfl ?_
  refine c_V2i (nc := 4 * n) (ns := 108 * n) (mc := 4) (ms := 108) (N := mX11_way) dL_law_437 lv_L_41 mo_X11_way hC.cn (Nat.le_of_ble_eq_true rfl) (Nat.le_of_ble_eq_true rfl) (by decide) ((cp_way D hI hC (xs (i + 1)) (xs (i + 2))).more (by decide) (by decide)) (fun h1 hP => ?_)
  obtain ⟨hC1, hF1⟩ := hP
  have hS1 := (hF1.2 0 (Or.inl (by decide))).trans hS
  have hR1 := hR.fr hF1
  refine e_aload_n dL_law_440 rfl ?_
  refine e_aload_n dL_law_441 rfl ?_
  refine e_iload_n dL_law_442 rfl ?_
  refine e_iconst (nI 1) dL_law_443 (by decide) ?_
  refine e_iaddN dL_law_444 ?_
  refine e_ildX (i + 1) (xs (i + 1)) dL_law_445 hS1 (by decide) rfl (by omega) (by omega) rfl ?_
  refine e_aload_n dL_law_446 rfl ?_
  refine e_iload_n dL_law_447 rfl ?_
  refine e_iconst (nI 2) dL_law_448 (by decide) ?_
  refine e_iaddN dL_law_449 ?_
  refine e_ildX (i + 2) (xs (i + 2)) dL_law_450 hS1 (by decide) rfl (by omega) (by omega) rfl ?_
  refine c_V2i (nc := 4 * n) (ns := 108 * n) (mc := 0) (ms := 0) (N := mX12_way) dL_law_451 lv_L_44 mo_X12_way hR1.cn (Nat.le_of_ble_eq_true rfl) (Nat.le_of_ble_eq_true rfl) (by decide) (rp_way D hI hR1 (xs (i + 1)) (xs (i + 2))) (fun h2 hP => ?_)
  obtain ⟨hR2, hF2⟩ := hP
  have hC2 := hC1.fr hR2 hF2
  refine e_icmp_eq 1703 dL_law_454 (by decide) (fun hc => ?_) (fun hc => absurd rfl hc)
  exact kk h2 _ ((hF2.2 0 (Or.inl (by decide))).trans hS1) hC2 hR2 (i_way hI (xs (i + 1)) (xs (i + 2)))
set_option maxRecDepth 20000 in
theorem lc_7 (D : En) {post : Option Value → AH → Prop} {L : Nat} {xs : Nat → Int32} {n i : Nat} (hi : i + 6 ≤ L) (hL : L ≤ 384) {h : AH} {s : SS} (hS : h[0]? = some (.inl (6, L, .inl xs))) (hC : ClsS h s) (hR : RefS h s) (hI : INV s) (kk : ∀ h' s', h'[0]? = some (.inl (6, L, .inl xs)) → ClsS h' s' → RefS h' s' → INV s' → Ev D 50 mL_law 1703 [some (.ref 0), some (.ref 11), some (.ref 82), some (.int (nI i))] [] h' (4 * n) (108 * n) post) : Ev D 50 mL_law 459 [some (.ref 0), some (.ref 11), some (.ref 82), some (.int (nI i))] [] h (4 * n + 4) (108 * n + 108) post := by
  refine e_aload_n dL_law_459 rfl ?_
  refine e_aload_n dL_law_460 rfl ?_
  refine e_iload_n dL_law_461 rfl ?_
  refine e_iconst (nI 1) dL_law_462 (by decide) ?_
  refine e_iaddN dL_law_463 ?_
  refine e_ildX (i + 1) (xs (i + 1)) dL_law_464 hS (by decide) rfl (by omega) (by omega) rfl ?_
  refine e_aload_n dL_law_465 rfl ?_
  refine e_iload_n dL_law_466 rfl ?_
  refine e_iconst (nI 2) dL_law_467 (by decide) ?_
  refine e_iaddN dL_law_468 ?_
  refine e_ildX (i + 2) (xs (i + 2)) dL_law_469 hS (by decide) rfl (by omega) (by omega) rfl ?_
  refine e_aload_n dL_law_470 rfl ?_
  refine e_iload_n dL_law_471 rfl ?_
  refine e_iconst (nI 3) dL_law_472 (by decide) ?_
  refine e_iaddN dL_law_473 ?_
  refine e_ildX (i + 3) (xs (i + 3)) dL_law_474 hS (by decide) rfl (by omega) (by omega) rfl ?_
  refine c_V3i (nc := 4 * n) (ns := 108 * n) (mc := 4) (ms := 108) (N := mX11_mend) dL_law_475 lv_L_45 mo_X11_mend hC.cn (Nat.le_of_ble_eq_true rfl) (Nat.le_of_ble_eq_true rfl) (by decide) ((cp_mend D hI hC (xs (i + 1)) (xs (i + 2)) (xs (i + 3))).more (by decide) (by decide)) (fun h1 hP => ?_)
  obtain ⟨hC1, hF1⟩ := hP
  have hS1 := (hF1.2 0 (Or.inl (by decide))).trans hS
  have hR1 := hR.fr hF1
  refine e_aload_n dL_law_478 rfl ?_
  refine e_aload_n dL_law_479 rfl ?_
  refine e_iload_n dL_law_480 rfl ?_
  refine e_iconst (nI 1) dL_law_481 (by decide) ?_
  refine e_iaddN dL_law_482 ?_
  refine e_ildX (i + 1) (xs (i + 1)) dL_law_483 hS1 (by decide) rfl (by omega) (by omega) rfl ?_
  refine e_aload_n dL_law_484 rfl ?_
  refine e_iload_n dL_law_485 rfl ?_
  refine e_iconst (nI 2) dL_law_486 (by decide) ?_
  refine e_iaddN dL_law_487 ?_
  refine e_ildX (i + 2) (xs (i + 2)) dL_law_488 hS1 (by decide) rfl (by omega) (by omega) rfl ?_
  refine e_aload_n dL_law_489 rfl ?_
  refine e_iload_n dL_law_490 rfl ?_
  refine e_iconst (nI 3) dL_law_491 (by decide) ?_
  refine e_iaddN dL_law_492 ?_
  refine e_ildX (i + 3) (xs (i + 3)) dL_law_493 hS1 (by decide) rfl (by omega) (by omega) rfl ?_
  refine c_V3i (nc := 4 * n) (ns := 108 * n) (mc := 0) (ms := 0) (N := mX12_mend) dL_law_494 lv_L_48 mo_X12_mend hR1.cn (Nat.le_of_ble_eq_true rfl) (Nat.le_of_ble_eq_true rfl) (by decide) (rp_mend D hI hR1 (xs (i + 1)) (xs (i + 2)) (xs (i + 3))) (fun h2 hP => ?_)
  obtain ⟨hR2, hF2⟩ := hP
  have hC2 := hC1.fr hR2 hF2
  refine e_icmp_eq 1703 dL_law_497 (by decide) (fun hc => ?_) (fun hc => absurd rfl hc)
  exact kk h2 _ ((hF2.2 0 (Or.inl (by decide))).trans hS1) hC2 hR2 (i_mend hI (xs (i + 1)) (xs (i + 2)) (xs (i + 3)))
set_option maxRecDepth 20000 in
theorem lc_8 (D : En) {post : Option Value → AH → Prop} {L : Nat} {xs : Nat → Int32} {n i : Nat} (hi : i + 6 ≤ L) (hL : L ≤ 384) {h : AH} {s : SS} (hS : h[0]? = some (.inl (6, L, .inl xs))) (hC : ClsS h s) (hR : RefS h s) (hI : INV s) (kk : ∀ h' s', h'[0]? = some (.inl (6, L, .inl xs)) → ClsS h' s' → RefS h' s' → INV s' → Ev D 50 mL_law 1703 [some (.ref 0), some (.ref 11), some (.ref 82), some (.int (nI i))] [] h' (4 * n) (108 * n) post) : Ev D 50 mL_law 502 [some (.ref 0), some (.ref 11), some (.ref 82), some (.int (nI i))] [] h (4 * n + 4) (108 * n + 108) post := by
  refine e_aload_n dL_law_502 rfl ?_
  refine e_aload_n dL_law_503 rfl ?_
  refine e_iload_n dL_law_504 rfl ?_
  refine e_iconst (nI 1) dL_law_505 (by decide) ?_
  refine e_iaddN dL_law_506 ?_
  refine e_ildX (i + 1) (xs (i + 1)) dL_law_507 hS (by decide) rfl (by omega) (by omega) rfl ?_
  refine e_aload_n dL_law_508 rfl ?_
  refine e_iload_n dL_law_509 rfl ?_
  refine e_iconst (nI 2) dL_law_510 (by decide) ?_
  refine e_iaddN dL_law_511 ?_
  refine e_ildX (i + 2) (xs (i + 2)) dL_law_512 hS (by decide) rfl (by omega) (by omega) rfl ?_
  refine e_aload_n dL_law_513 rfl ?_
  refine e_iload_n dL_law_514 rfl ?_
  refine e_iconst (nI 3) dL_law_515 (by decide) ?_
  refine e_iaddN dL_law_516 ?_
  refine e_ildX (i + 3) (xs (i + 3)) dL_law_517 hS (by decide) rfl (by omega) (by omega) rfl ?_
  refine e_aload_n dL_law_518 rfl ?_
  refine e_iload_n dL_law_519 rfl ?_
  refine e_iconst (nI 4) dL_law_520 (by decide) ?_
  refine e_iaddN dL_law_521 ?_
  refine e_ildX (i + 4) (xs (i + 4)) dL_law_522 hS (by decide) rfl (by omega) (by omega) rfl ?_
  refine c_V4i (nc := 4 * n) (ns := 108 * n) (mc := 4) (ms := 108) (N := mX11_thing) dL_law_523 lv_L_49 mo_X11_thing hC.cn (Nat.le_of_ble_eq_true rfl) (Nat.le_of_ble_eq_true rfl) (by decide) ((cp_thing D hI hC (xs (i + 1)) (xs (i + 2)) (xs (i + 3)) (xs (i + 4))).more (by decide) (by decide)) (fun h1 hP => ?_)
  obtain ⟨hC1, hF1⟩ := hP
  have hS1 := (hF1.2 0 (Or.inl (by decide))).trans hS
  have hR1 := hR.fr hF1
  refine e_aload_n dL_law_526 rfl ?_
  refine e_aload_n dL_law_527 rfl ?_
  refine e_iload_n dL_law_528 rfl ?_
  refine e_iconst (nI 1) dL_law_529 (by decide) ?_
  refine e_iaddN dL_law_530 ?_
  refine e_ildX (i + 1) (xs (i + 1)) dL_law_531 hS1 (by decide) rfl (by omega) (by omega) rfl ?_
  refine e_aload_n dL_law_532 rfl ?_
  refine e_iload_n dL_law_533 rfl ?_
  refine e_iconst (nI 2) dL_law_534 (by decide) ?_
  refine e_iaddN dL_law_535 ?_
  refine e_ildX (i + 2) (xs (i + 2)) dL_law_536 hS1 (by decide) rfl (by omega) (by omega) rfl ?_
  refine e_aload_n dL_law_537 rfl ?_
  refine e_iload_n dL_law_538 rfl ?_
  refine e_iconst (nI 3) dL_law_539 (by decide) ?_
  refine e_iaddN dL_law_540 ?_
  refine e_ildX (i + 3) (xs (i + 3)) dL_law_541 hS1 (by decide) rfl (by omega) (by omega) rfl ?_
  refine e_aload_n dL_law_542 rfl ?_
  refine e_iload_n dL_law_543 rfl ?_
  refine e_iconst (nI 4) dL_law_544 (by decide) ?_
  refine e_iaddN dL_law_545 ?_
  refine e_ildX (i + 4) (xs (i + 4)) dL_law_546 hS1 (by decide) rfl (by omega) (by omega) rfl ?_
  refine c_V4i (nc := 4 * n) (ns := 108 * n) (mc := 0) (ms := 0) (N := mX12_thing_) dL_law_547 lv_L_52 mo_X12_thing_ hR1.cn (Nat.le_of_ble_eq_true rfl) (Nat.le_of_ble_eq_true rfl) (by decide) (rp_thing D hI hR1 (xs (i + 1)) (xs (i + 2)) (xs (i + 3)) (xs (i + 4))) (fun h2 hP => ?_)
  obtain ⟨hR2, hF2⟩ := hP
  have hC2 := hC1.fr hR2 hF2
  refine e_icmp_eq 1703 dL_law_550 (by decide) (fun hc => ?_) (fun hc => absurd rfl hc)
  exact kk h2 _ ((hF2.2 0 (Or.inl (by decide))).trans hS1) hC2 hR2 (i_thing hI (xs (i + 1)) (xs (i + 2)) (xs (i + 3)) (xs (i + 4)))
set_option maxRecDepth 20000 in
theorem lc_9 (D : En) {post : Option Value → AH → Prop} {L : Nat} {xs : Nat → Int32} {n i : Nat} (hi : i + 6 ≤ L) (hL : L ≤ 384) {h : AH} {s : SS} (hS : h[0]? = some (.inl (6, L, .inl xs))) (hC : ClsS h s) (hR : RefS h s) (hI : INV s) (kk : ∀ h' s', h'[0]? = some (.inl (6, L, .inl xs)) → ClsS h' s' → RefS h' s' → INV s' → Ev D 50 mL_law 1703 [some (.ref 0), some (.ref 11), some (.ref 82), some (.int (nI i))] [] h' (4 * n) (108 * n) post) : Ev D 50 mL_law 555 [some (.ref 0), some (.ref 11), some (.ref 82), some (.int (nI i))] [] h (4 * n + 4) (108 * n + 108) post := by
  refine e_aload_n dL_law_555 rfl ?_
  refine e_aload_n dL_law_556 rfl ?_
  refine e_iload_n dL_law_557 rfl ?_
  refine e_iconst (nI 1) dL_law_558 (by decide) ?_
  refine e_iaddN dL_law_559 ?_
  refine e_ildX (i + 1) (xs (i + 1)) dL_law_560 hS (by decide) rfl (by omega) (by omega) rfl ?_
  refine e_aload_n dL_law_561 rfl ?_
  refine e_iload_n dL_law_562 rfl ?_
  refine e_iconst (nI 2) dL_law_563 (by decide) ?_
  refine e_iaddN dL_law_564 ?_
  refine e_ildX (i + 2) (xs (i + 2)) dL_law_565 hS (by decide) rfl (by omega) (by omega) rfl ?_
  refine c_V2i (nc := 4 * n) (ns := 108 * n) (mc := 4) (ms := 108) (N := mX11_ofThing) dL_law_566 lv_L_53 mo_X11_ofThing hC.cn (Nat.le_of_ble_eq_true rfl) (Nat.le_of_ble_eq_true rfl) (by decide) ((cp_ofThing D hI hC (xs (i + 1)) (xs (i + 2))).more (by decide) (by decide)) (fun h1 hP => ?_)
  obtain ⟨hC1, hF1⟩ := hP
  have hS1 := (hF1.2 0 (Or.inl (by decide))).trans hS
  have hR1 := hR.fr hF1
  refine e_aload_n dL_law_569 rfl ?_
  refine e_aload_n dL_law_570 rfl ?_
  refine e_iload_n dL_law_571 rfl ?_
  refine e_iconst (nI 1) dL_law_572 (by decide) ?_
  refine e_iaddN dL_law_573 ?_
  refine e_ildX (i + 1) (xs (i + 1)) dL_law_574 hS1 (by decide) rfl (by omega) (by omega) rfl ?_
  refine e_aload_n dL_law_575 rfl ?_
  refine e_iload_n dL_law_576 rfl ?_
  refine e_iconst (nI 2) dL_law_577 (by decide) ?_
  refine e_iaddN dL_law_578 ?_
  refine e_ildX (i + 2) (xs (i + 2)) dL_law_579 hS1 (by decide) rfl (by omega) (by omega) rfl ?_
  refine c_V2i (nc := 4 * n) (ns := 108 * n) (mc := 0) (ms := 0) (N := mX12_ofThing) dL_law_580 lv_L_56 mo_X12_ofThing hR1.cn (Nat.le_of_ble_eq_true rfl) (Nat.le_of_ble_eq_true rfl) (by decide) (rp_ofThing D hI hR1 (xs (i + 1)) (xs (i + 2))) (fun h2 hP => ?_)
  obtain ⟨hR2, hF2⟩ := hP
  have hC2 := hC1.fr hR2 hF2
  refine e_icmp_eq 1703 dL_law_583 (by decide) (fun hc => ?_) (fun hc => absurd rfl hc)
  exact kk h2 _ ((hF2.2 0 (Or.inl (by decide))).trans hS1) hC2 hR2 (i_ofThing hI (xs (i + 1)) (xs (i + 2)))
set_option maxRecDepth 20000 in
theorem lc_10 (D : En) {post : Option Value → AH → Prop} {L : Nat} {xs : Nat → Int32} {n i : Nat} (hi : i + 6 ≤ L) (hL : L ≤ 384) {h : AH} {s : SS} (hS : h[0]? = some (.inl (6, L, .inl xs))) (hC : ClsS h s) (hR : RefS h s) (hI : INV s) (kk : ∀ h' s', h'[0]? = some (.inl (6, L, .inl xs)) → ClsS h' s' → RefS h' s' → INV s' → Ev D 50 mL_law 1703 [some (.ref 0), some (.ref 11), some (.ref 82), some (.int (nI i))] [] h' (4 * n) (108 * n) post) : Ev D 50 mL_law 588 [some (.ref 0), some (.ref 11), some (.ref 82), some (.int (nI i))] [] h (4 * n + 4) (108 * n + 108) post := by
  refine e_aload_n dL_law_588 rfl ?_
  refine e_aload_n dL_law_589 rfl ?_
  refine e_iload_n dL_law_590 rfl ?_
  refine e_iconst (nI 1) dL_law_591 (by decide) ?_
  refine e_iaddN dL_law_592 ?_
  refine e_ildX (i + 1) (xs (i + 1)) dL_law_593 hS (by decide) rfl (by omega) (by omega) rfl ?_
  refine e_aload_n dL_law_594 rfl ?_
  refine e_iload_n dL_law_595 rfl ?_
  refine e_iconst (nI 2) dL_law_596 (by decide) ?_
  refine e_iaddN dL_law_597 ?_
  refine e_ildX (i + 2) (xs (i + 2)) dL_law_598 hS (by decide) rfl (by omega) (by omega) rfl ?_
  refine c_V2i (nc := 4 * n) (ns := 108 * n) (mc := 4) (ms := 108) (N := mX11_as) dL_law_599 lv_L_57 mo_X11_as hC.cn (Nat.le_of_ble_eq_true rfl) (Nat.le_of_ble_eq_true rfl) (by decide) ((cp_as D hI hC (xs (i + 1)) (xs (i + 2))).more (by decide) (by decide)) (fun h1 hP => ?_)
  obtain ⟨hC1, hF1⟩ := hP
  have hS1 := (hF1.2 0 (Or.inl (by decide))).trans hS
  have hR1 := hR.fr hF1
  refine e_aload_n dL_law_602 rfl ?_
  refine e_aload_n dL_law_603 rfl ?_
  refine e_iload_n dL_law_604 rfl ?_
  refine e_iconst (nI 1) dL_law_605 (by decide) ?_
  refine e_iaddN dL_law_606 ?_
  refine e_ildX (i + 1) (xs (i + 1)) dL_law_607 hS1 (by decide) rfl (by omega) (by omega) rfl ?_
  refine e_aload_n dL_law_608 rfl ?_
  refine e_iload_n dL_law_609 rfl ?_
  refine e_iconst (nI 2) dL_law_610 (by decide) ?_
  refine e_iaddN dL_law_611 ?_
  refine e_ildX (i + 2) (xs (i + 2)) dL_law_612 hS1 (by decide) rfl (by omega) (by omega) rfl ?_
  refine c_V2i (nc := 4 * n) (ns := 108 * n) (mc := 0) (ms := 0) (N := mX12_as) dL_law_613 lv_L_60 mo_X12_as hR1.cn (Nat.le_of_ble_eq_true rfl) (Nat.le_of_ble_eq_true rfl) (by decide) (rp_as D hI hR1 (xs (i + 1)) (xs (i + 2))) (fun h2 hP => ?_)
  obtain ⟨hR2, hF2⟩ := hP
  have hC2 := hC1.fr hR2 hF2
  refine e_icmp_eq 1703 dL_law_616 (by decide) (fun hc => ?_) (fun hc => absurd rfl hc)
  exact kk h2 _ ((hF2.2 0 (Or.inl (by decide))).trans hS1) hC2 hR2 (i_as hI (xs (i + 1)) (xs (i + 2)))
set_option maxRecDepth 20000 in
theorem lc_11 (D : En) {post : Option Value → AH → Prop} {L : Nat} {xs : Nat → Int32} {n i : Nat} (hi : i + 6 ≤ L) (hL : L ≤ 384) {h : AH} {s : SS} (hS : h[0]? = some (.inl (6, L, .inl xs))) (hC : ClsS h s) (hR : RefS h s) (hI : INV s) (kk : ∀ h' s', h'[0]? = some (.inl (6, L, .inl xs)) → ClsS h' s' → RefS h' s' → INV s' → Ev D 50 mL_law 1703 [some (.ref 0), some (.ref 11), some (.ref 82), some (.int (nI i))] [] h' (4 * n) (108 * n) post) : Ev D 50 mL_law 621 [some (.ref 0), some (.ref 11), some (.ref 82), some (.int (nI i))] [] h (4 * n + 4) (108 * n + 108) post := by
  refine e_aload_n dL_law_621 rfl ?_
  refine e_aload_n dL_law_622 rfl ?_
  refine e_iload_n dL_law_623 rfl ?_
  refine e_iconst (nI 1) dL_law_624 (by decide) ?_
  refine e_iaddN dL_law_625 ?_
  refine e_ildX (i + 1) (xs (i + 1)) dL_law_626 hS (by decide) rfl (by omega) (by omega) rfl ?_
  refine e_aload_n dL_law_627 rfl ?_
  refine e_iload_n dL_law_628 rfl ?_
  refine e_iconst (nI 2) dL_law_629 (by decide) ?_
  refine e_iaddN dL_law_630 ?_
  refine e_ildX (i + 2) (xs (i + 2)) dL_law_631 hS (by decide) rfl (by omega) (by omega) rfl ?_
  refine c_V2i (nc := 4 * n) (ns := 108 * n) (mc := 4) (ms := 108) (N := mX11_open) dL_law_632 lv_L_61 mo_X11_open hC.cn (Nat.le_of_ble_eq_true rfl) (Nat.le_of_ble_eq_true rfl) (by decide) ((cp_open D hI hC (xs (i + 1)) (xs (i + 2))).more (by decide) (by decide)) (fun h1 hP => ?_)
  obtain ⟨hC1, hF1⟩ := hP
  have hS1 := (hF1.2 0 (Or.inl (by decide))).trans hS
  have hR1 := hR.fr hF1
  refine e_aload_n dL_law_635 rfl ?_
  refine e_aload_n dL_law_636 rfl ?_
  refine e_iload_n dL_law_637 rfl ?_
  refine e_iconst (nI 1) dL_law_638 (by decide) ?_
  refine e_iaddN dL_law_639 ?_
  refine e_ildX (i + 1) (xs (i + 1)) dL_law_640 hS1 (by decide) rfl (by omega) (by omega) rfl ?_
  refine e_aload_n dL_law_641 rfl ?_
  refine e_iload_n dL_law_642 rfl ?_
  refine e_iconst (nI 2) dL_law_643 (by decide) ?_
  refine e_iaddN dL_law_644 ?_
  refine e_ildX (i + 2) (xs (i + 2)) dL_law_645 hS1 (by decide) rfl (by omega) (by omega) rfl ?_
  refine c_V2i (nc := 4 * n) (ns := 108 * n) (mc := 0) (ms := 0) (N := mX12_open) dL_law_646 lv_L_64 mo_X12_open hR1.cn (Nat.le_of_ble_eq_true rfl) (Nat.le_of_ble_eq_true rfl) (by decide) (rp_open D hI hR1 (xs (i + 1)) (xs (i + 2))) (fun h2 hP => ?_)
  obtain ⟨hR2, hF2⟩ := hP
  have hC2 := hC1.fr hR2 hF2
  refine e_icmp_eq 1703 dL_law_649 (by decide) (fun hc => ?_) (fun hc => absurd rfl hc)
  exact kk h2 _ ((hF2.2 0 (Or.inl (by decide))).trans hS1) hC2 hR2 (i_open hI (xs (i + 1)) (xs (i + 2)))
set_option maxRecDepth 20000 in
theorem lc_12 (D : En) {post : Option Value → AH → Prop} {L : Nat} {xs : Nat → Int32} {n i : Nat} (hi : i + 6 ≤ L) (hL : L ≤ 384) {h : AH} {s : SS} (hS : h[0]? = some (.inl (6, L, .inl xs))) (hC : ClsS h s) (hR : RefS h s) (hI : INV s) (kk : ∀ h' s', h'[0]? = some (.inl (6, L, .inl xs)) → ClsS h' s' → RefS h' s' → INV s' → Ev D 50 mL_law 1703 [some (.ref 0), some (.ref 11), some (.ref 82), some (.int (nI i))] [] h' (4 * n) (108 * n) post) : Ev D 50 mL_law 654 [some (.ref 0), some (.ref 11), some (.ref 82), some (.int (nI i))] [] h (4 * n + 4) (108 * n + 108) post := by
  refine e_aload_n dL_law_654 rfl ?_
  refine e_aload_n dL_law_655 rfl ?_
  refine e_iload_n dL_law_656 rfl ?_
  refine e_iconst (nI 1) dL_law_657 (by decide) ?_
  refine e_iaddN dL_law_658 ?_
  refine e_ildX (i + 1) (xs (i + 1)) dL_law_659 hS (by decide) rfl (by omega) (by omega) rfl ?_
  refine e_aload_n dL_law_660 rfl ?_
  refine e_iload_n dL_law_661 rfl ?_
  refine e_iconst (nI 2) dL_law_662 (by decide) ?_
  refine e_iaddN dL_law_663 ?_
  refine e_ildX (i + 2) (xs (i + 2)) dL_law_664 hS (by decide) rfl (by omega) (by omega) rfl ?_
  refine c_V2i (nc := 4 * n) (ns := 108 * n) (mc := 4) (ms := 108) (N := mX11_promise) dL_law_665 lv_L_65 mo_X11_promise hC.cn (Nat.le_of_ble_eq_true rfl) (Nat.le_of_ble_eq_true rfl) (by decide) ((cp_promise D hI hC (xs (i + 1)) (xs (i + 2))).more (by decide) (by decide)) (fun h1 hP => ?_)
  obtain ⟨hC1, hF1⟩ := hP
  have hS1 := (hF1.2 0 (Or.inl (by decide))).trans hS
  have hR1 := hR.fr hF1
  refine e_aload_n dL_law_668 rfl ?_
  refine e_aload_n dL_law_669 rfl ?_
  refine e_iload_n dL_law_670 rfl ?_
  refine e_iconst (nI 1) dL_law_671 (by decide) ?_
  refine e_iaddN dL_law_672 ?_
  refine e_ildX (i + 1) (xs (i + 1)) dL_law_673 hS1 (by decide) rfl (by omega) (by omega) rfl ?_
  refine e_aload_n dL_law_674 rfl ?_
  refine e_iload_n dL_law_675 rfl ?_
  refine e_iconst (nI 2) dL_law_676 (by decide) ?_
  refine e_iaddN dL_law_677 ?_
  refine e_ildX (i + 2) (xs (i + 2)) dL_law_678 hS1 (by decide) rfl (by omega) (by omega) rfl ?_
  refine c_V2i (nc := 4 * n) (ns := 108 * n) (mc := 0) (ms := 0) (N := mX12_promise) dL_law_679 lv_L_68 mo_X12_promise hR1.cn (Nat.le_of_ble_eq_true rfl) (Nat.le_of_ble_eq_true rfl) (by decide) (rp_promise D hI hR1 (xs (i + 1)) (xs (i + 2))) (fun h2 hP => ?_)
  obtain ⟨hR2, hF2⟩ := hP
  have hC2 := hC1.fr hR2 hF2
  refine e_icmp_eq 1703 dL_law_682 (by decide) (fun hc => ?_) (fun hc => absurd rfl hc)
  exact kk h2 _ ((hF2.2 0 (Or.inl (by decide))).trans hS1) hC2 hR2 (i_promise hI (xs (i + 1)) (xs (i + 2)))
set_option maxRecDepth 20000 in
theorem lc_13 (D : En) {post : Option Value → AH → Prop} {L : Nat} {xs : Nat → Int32} {n i : Nat} (hi : i + 6 ≤ L) (hL : L ≤ 384) {h : AH} {s : SS} (hS : h[0]? = some (.inl (6, L, .inl xs))) (hC : ClsS h s) (hR : RefS h s) (hI : INV s) (kk : ∀ h' s', h'[0]? = some (.inl (6, L, .inl xs)) → ClsS h' s' → RefS h' s' → INV s' → Ev D 50 mL_law 1703 [some (.ref 0), some (.ref 11), some (.ref 82), some (.int (nI i))] [] h' (4 * n) (108 * n) post) : Ev D 50 mL_law 687 [some (.ref 0), some (.ref 11), some (.ref 82), some (.int (nI i))] [] h (4 * n + 4) (108 * n + 108) post := by
  refine e_aload_n dL_law_687 rfl ?_
  refine e_aload_n dL_law_688 rfl ?_
  refine e_iload_n dL_law_689 rfl ?_
  refine e_iconst (nI 1) dL_law_690 (by decide) ?_
  refine e_iaddN dL_law_691 ?_
  refine e_ildX (i + 1) (xs (i + 1)) dL_law_692 hS (by decide) rfl (by omega) (by omega) rfl ?_
  refine c_V1i (nc := 4 * n) (ns := 108 * n) (mc := 4) (ms := 108) (N := mX11_comfort) dL_law_693 lv_L_69 mo_X11_comfort hC.cn (Nat.le_of_ble_eq_true rfl) (Nat.le_of_ble_eq_true rfl) (by decide) ((cp_comfort D hI hC (xs (i + 1))).more (by decide) (by decide)) (fun h1 hP => ?_)
  obtain ⟨hC1, hF1⟩ := hP
  have hS1 := (hF1.2 0 (Or.inl (by decide))).trans hS
  have hR1 := hR.fr hF1
  refine e_aload_n dL_law_696 rfl ?_
  refine e_aload_n dL_law_697 rfl ?_
  refine e_iload_n dL_law_698 rfl ?_
  refine e_iconst (nI 1) dL_law_699 (by decide) ?_
  refine e_iaddN dL_law_700 ?_
  refine e_ildX (i + 1) (xs (i + 1)) dL_law_701 hS1 (by decide) rfl (by omega) (by omega) rfl ?_
  refine c_V1i (nc := 4 * n) (ns := 108 * n) (mc := 0) (ms := 0) (N := mX12_comfort) dL_law_702 lv_L_72 mo_X12_comfort hR1.cn (Nat.le_of_ble_eq_true rfl) (Nat.le_of_ble_eq_true rfl) (by decide) (rp_comfort D hI hR1 (xs (i + 1))) (fun h2 hP => ?_)
  obtain ⟨hR2, hF2⟩ := hP
  have hC2 := hC1.fr hR2 hF2
  refine e_icmp_eq 1703 dL_law_705 (by decide) (fun hc => ?_) (fun hc => absurd rfl hc)
  exact kk h2 _ ((hF2.2 0 (Or.inl (by decide))).trans hS1) hC2 hR2 (i_comfort hI (xs (i + 1)))
set_option maxRecDepth 20000 in
theorem lc_14 (D : En) {post : Option Value → AH → Prop} {L : Nat} {xs : Nat → Int32} {n i : Nat} (hi : i + 6 ≤ L) (hL : L ≤ 384) {h : AH} {s : SS} (hS : h[0]? = some (.inl (6, L, .inl xs))) (hC : ClsS h s) (hR : RefS h s) (hI : INV s) (kk : ∀ h' s', h'[0]? = some (.inl (6, L, .inl xs)) → ClsS h' s' → RefS h' s' → INV s' → Ev D 50 mL_law 1703 [some (.ref 0), some (.ref 11), some (.ref 82), some (.int (nI i))] [] h' (4 * n) (108 * n) post) : Ev D 50 mL_law 710 [some (.ref 0), some (.ref 11), some (.ref 82), some (.int (nI i))] [] h (4 * n + 4) (108 * n + 108) post := by
  refine e_aload_n dL_law_710 rfl ?_
  refine c_V0i (nc := 4 * n) (ns := 108 * n) (mc := 4) (ms := 108) (N := mX11_haven) dL_law_711 lv_L_73 mo_X11_haven hC.cn (Nat.le_of_ble_eq_true rfl) (Nat.le_of_ble_eq_true rfl) (by decide) ((cp_haven D hI hC ).more (by decide) (by decide)) (fun h1 hP => ?_)
  obtain ⟨hC1, hF1⟩ := hP
  have hS1 := (hF1.2 0 (Or.inl (by decide))).trans hS
  have hR1 := hR.fr hF1
  refine e_aload_n dL_law_714 rfl ?_
  refine c_V0i (nc := 4 * n) (ns := 108 * n) (mc := 0) (ms := 0) (N := mX12_haven) dL_law_715 lv_L_77 mo_X12_haven hR1.cn (Nat.le_of_ble_eq_true rfl) (Nat.le_of_ble_eq_true rfl) (by decide) (rp_haven D hI hR1 ) (fun h2 hP => ?_)
  obtain ⟨hR2, hF2⟩ := hP
  have hC2 := hC1.fr hR2 hF2
  refine e_icmp_eq 1703 dL_law_718 (by decide) (fun hc => ?_) (fun hc => absurd rfl hc)
  exact kk h2 _ ((hF2.2 0 (Or.inl (by decide))).trans hS1) hC2 hR2 (i_haven hI )
set_option maxRecDepth 20000 in
theorem lc_15 (D : En) {post : Option Value → AH → Prop} {L : Nat} {xs : Nat → Int32} {n i : Nat} (hi : i + 6 ≤ L) (hL : L ≤ 384) {h : AH} {s : SS} (hS : h[0]? = some (.inl (6, L, .inl xs))) (hC : ClsS h s) (hR : RefS h s) (hI : INV s) (kk : ∀ h' s', h'[0]? = some (.inl (6, L, .inl xs)) → ClsS h' s' → RefS h' s' → INV s' → Ev D 50 mL_law 1703 [some (.ref 0), some (.ref 11), some (.ref 82), some (.int (nI i))] [] h' (4 * n) (108 * n) post) : Ev D 50 mL_law 723 [some (.ref 0), some (.ref 11), some (.ref 82), some (.int (nI i))] [] h (4 * n + 4) (108 * n + 108) post := by
  refine e_aload_n dL_law_723 rfl ?_
  refine e_aload_n dL_law_724 rfl ?_
  refine e_iload_n dL_law_725 rfl ?_
  refine e_iconst (nI 1) dL_law_726 (by decide) ?_
  refine e_iaddN dL_law_727 ?_
  refine e_ildX (i + 1) (xs (i + 1)) dL_law_728 hS (by decide) rfl (by omega) (by omega) rfl ?_
  refine e_i2l dL_law_729 ?_
  refine e_bipush (nI 32) dL_law_730 (by decide) ?_
  refine e_lshl dL_law_732 ?_
  refine e_aload_n dL_law_733 rfl ?_
  refine e_iload_n dL_law_734 rfl ?_
  refine e_iconst (nI 2) dL_law_735 (by decide) ?_
  refine e_iaddN dL_law_736 ?_
  refine e_ildX (i + 2) (xs (i + 2)) dL_law_737 hS (by decide) rfl (by omega) (by omega) rfl ?_
  refine e_i2l dL_law_738 ?_
  refine e_ldc2 dL_law_739 w_1721 ?_
  refine e_land dL_law_742 ?_
  refine e_lor dL_law_743 ?_
  refine e_aload_n dL_law_744 rfl ?_
  refine e_iload_n dL_law_745 rfl ?_
  refine e_iconst (nI 3) dL_law_746 (by decide) ?_
  refine e_iaddN dL_law_747 ?_
  refine e_ildX (i + 3) (xs (i + 3)) dL_law_748 hS (by decide) rfl (by omega) (by omega) rfl ?_
  refine c_V2i (nc := 4 * n) (ns := 108 * n) (mc := 4) (ms := 108) (N := mX11_feed) dL_law_749 lv_L_80 mo_X11_feed hC.cn (Nat.le_of_ble_eq_true rfl) (Nat.le_of_ble_eq_true rfl) (by decide) ((cp_feed D hI hC ((((xs (i + 1)).toInt64 <<< ((nI 32).toInt64 &&& 63)) ||| ((xs (i + 2)).toInt64 &&& 4294967295))) (xs (i + 3))).more (by decide) (by decide)) (fun h1 hP => ?_)
  obtain ⟨hC1, hF1⟩ := hP
  have hS1 := (hF1.2 0 (Or.inl (by decide))).trans hS
  have hR1 := hR.fr hF1
  refine e_aload_n dL_law_752 rfl ?_
  refine e_aload_n dL_law_753 rfl ?_
  refine e_iload_n dL_law_754 rfl ?_
  refine e_iconst (nI 1) dL_law_755 (by decide) ?_
  refine e_iaddN dL_law_756 ?_
  refine e_ildX (i + 1) (xs (i + 1)) dL_law_757 hS1 (by decide) rfl (by omega) (by omega) rfl ?_
  refine e_i2l dL_law_758 ?_
  refine e_bipush (nI 32) dL_law_759 (by decide) ?_
  refine e_lshl dL_law_761 ?_
  refine e_aload_n dL_law_762 rfl ?_
  refine e_iload_n dL_law_763 rfl ?_
  refine e_iconst (nI 2) dL_law_764 (by decide) ?_
  refine e_iaddN dL_law_765 ?_
  refine e_ildX (i + 2) (xs (i + 2)) dL_law_766 hS1 (by decide) rfl (by omega) (by omega) rfl ?_
  refine e_i2l dL_law_767 ?_
  refine e_ldc2 dL_law_768 w_1721 ?_
  refine e_land dL_law_771 ?_
  refine e_lor dL_law_772 ?_
  refine e_aload_n dL_law_773 rfl ?_
  refine e_iload_n dL_law_774 rfl ?_
  refine e_iconst (nI 3) dL_law_775 (by decide) ?_
  refine e_iaddN dL_law_776 ?_
  refine e_ildX (i + 3) (xs (i + 3)) dL_law_777 hS1 (by decide) rfl (by omega) (by omega) rfl ?_
  refine c_V2i (nc := 4 * n) (ns := 108 * n) (mc := 0) (ms := 0) (N := mX12_feed) dL_law_778 lv_L_84 mo_X12_feed hR1.cn (Nat.le_of_ble_eq_true rfl) (Nat.le_of_ble_eq_true rfl) (by decide) (rp_feed D hI hR1 ((((xs (i + 1)).toInt64 <<< ((nI 32).toInt64 &&& 63)) ||| ((xs (i + 2)).toInt64 &&& 4294967295))) (xs (i + 3))) (fun h2 hP => ?_)
  obtain ⟨hR2, hF2⟩ := hP
  have hC2 := hC1.fr hR2 hF2
  refine e_icmp_eq 1703 dL_law_781 (by decide) (fun hc => ?_) (fun hc => absurd rfl hc)
  exact kk h2 _ ((hF2.2 0 (Or.inl (by decide))).trans hS1) hC2 hR2 (i_feed hI ((((xs (i + 1)).toInt64 <<< ((nI 32).toInt64 &&& 63)) ||| ((xs (i + 2)).toInt64 &&& 4294967295))) (xs (i + 3)))
set_option maxRecDepth 20000 in
theorem lc_16 (D : En) {post : Option Value → AH → Prop} {L : Nat} {xs : Nat → Int32} {n i : Nat} (hi : i + 6 ≤ L) (hL : L ≤ 384) {h : AH} {s : SS} (hS : h[0]? = some (.inl (6, L, .inl xs))) (hC : ClsS h s) (hR : RefS h s) (hI : INV s) (kk : ∀ h' s', h'[0]? = some (.inl (6, L, .inl xs)) → ClsS h' s' → RefS h' s' → INV s' → Ev D 50 mL_law 1703 [some (.ref 0), some (.ref 11), some (.ref 82), some (.int (nI i))] [] h' (4 * n) (108 * n) post) : Ev D 50 mL_law 786 [some (.ref 0), some (.ref 11), some (.ref 82), some (.int (nI i))] [] h (4 * n + 4) (108 * n + 108) post := by
  refine e_aload_n dL_law_786 rfl ?_
  refine e_aload_n dL_law_787 rfl ?_
  refine e_iload_n dL_law_788 rfl ?_
  refine e_iconst (nI 1) dL_law_789 (by decide) ?_
  refine e_iaddN dL_law_790 ?_
  refine e_ildX (i + 1) (xs (i + 1)) dL_law_791 hS (by decide) rfl (by omega) (by omega) rfl ?_
  refine c_V1i (nc := 4 * n) (ns := 108 * n) (mc := 4) (ms := 108) (N := mX11_text) dL_law_792 lv_L_85 mo_X11_text hC.cn (Nat.le_of_ble_eq_true rfl) (Nat.le_of_ble_eq_true rfl) (by decide) ((cp_text D hI hC (xs (i + 1))).more (by decide) (by decide)) (fun h1 hP => ?_)
  obtain ⟨hC1, hF1⟩ := hP
  have hS1 := (hF1.2 0 (Or.inl (by decide))).trans hS
  have hR1 := hR.fr hF1
  refine e_aload_n dL_law_795 rfl ?_
  refine e_aload_n dL_law_796 rfl ?_
  refine e_iload_n dL_law_797 rfl ?_
  refine e_iconst (nI 1) dL_law_798 (by decide) ?_
  refine e_iaddN dL_law_799 ?_
  refine e_ildX (i + 1) (xs (i + 1)) dL_law_800 hS1 (by decide) rfl (by omega) (by omega) rfl ?_
  refine c_V1i (nc := 4 * n) (ns := 108 * n) (mc := 0) (ms := 0) (N := mX12_text) dL_law_801 lv_L_88 mo_X12_text hR1.cn (Nat.le_of_ble_eq_true rfl) (Nat.le_of_ble_eq_true rfl) (by decide) (rp_text D hI hR1 (xs (i + 1))) (fun h2 hP => ?_)
  obtain ⟨hR2, hF2⟩ := hP
  have hC2 := hC1.fr hR2 hF2
  refine e_icmp_eq 1703 dL_law_804 (by decide) (fun hc => ?_) (fun hc => absurd rfl hc)
  exact kk h2 _ ((hF2.2 0 (Or.inl (by decide))).trans hS1) hC2 hR2 (i_text hI (xs (i + 1)))
set_option maxRecDepth 20000 in
theorem lc_17 (D : En) {post : Option Value → AH → Prop} {L : Nat} {xs : Nat → Int32} {n i : Nat} (hi : i + 6 ≤ L) (hL : L ≤ 384) {h : AH} {s : SS} (hS : h[0]? = some (.inl (6, L, .inl xs))) (hC : ClsS h s) (hR : RefS h s) (hI : INV s) (kk : ∀ h' s', h'[0]? = some (.inl (6, L, .inl xs)) → ClsS h' s' → RefS h' s' → INV s' → Ev D 50 mL_law 1703 [some (.ref 0), some (.ref 11), some (.ref 82), some (.int (nI i))] [] h' (4 * n) (108 * n) post) : Ev D 50 mL_law 809 [some (.ref 0), some (.ref 11), some (.ref 82), some (.int (nI i))] [] h (4 * n + 4) (108 * n + 108) post := by
  refine e_aload_n dL_law_809 rfl ?_
  refine e_aload_n dL_law_810 rfl ?_
  refine e_iload_n dL_law_811 rfl ?_
  refine e_iconst (nI 1) dL_law_812 (by decide) ?_
  refine e_iaddN dL_law_813 ?_
  refine e_ildX (i + 1) (xs (i + 1)) dL_law_814 hS (by decide) rfl (by omega) (by omega) rfl ?_
  refine e_aload_n dL_law_815 rfl ?_
  refine e_iload_n dL_law_816 rfl ?_
  refine e_iconst (nI 2) dL_law_817 (by decide) ?_
  refine e_iaddN dL_law_818 ?_
  refine e_ildX (i + 2) (xs (i + 2)) dL_law_819 hS (by decide) rfl (by omega) (by omega) rfl ?_
  refine e_aload_n dL_law_820 rfl ?_
  refine e_iload_n dL_law_821 rfl ?_
  refine e_iconst (nI 3) dL_law_822 (by decide) ?_
  refine e_iaddN dL_law_823 ?_
  refine e_ildX (i + 3) (xs (i + 3)) dL_law_824 hS (by decide) rfl (by omega) (by omega) rfl ?_
  refine e_aload_n dL_law_825 rfl ?_
  refine e_iload_n dL_law_826 rfl ?_
  refine e_iconst (nI 4) dL_law_827 (by decide) ?_
  refine e_iaddN dL_law_828 ?_
  refine e_ildX (i + 4) (xs (i + 4)) dL_law_829 hS (by decide) rfl (by omega) (by omega) rfl ?_
  refine c_V4i (nc := 4 * n) (ns := 108 * n) (mc := 4) (ms := 108) (N := mX11_law) dL_law_830 lv_L_89 mo_X11_law hC.cn (Nat.le_of_ble_eq_true rfl) (Nat.le_of_ble_eq_true rfl) (by decide) ((cp_law D hI hC (xs (i + 1)) (xs (i + 2)) (xs (i + 3)) (xs (i + 4))).more (by decide) (by decide)) (fun h1 hP => ?_)
  obtain ⟨hC1, hF1⟩ := hP
  have hS1 := (hF1.2 0 (Or.inl (by decide))).trans hS
  have hR1 := hR.fr hF1
  refine e_aload_n dL_law_833 rfl ?_
  refine e_aload_n dL_law_834 rfl ?_
  refine e_iload_n dL_law_835 rfl ?_
  refine e_iconst (nI 1) dL_law_836 (by decide) ?_
  refine e_iaddN dL_law_837 ?_
  refine e_ildX (i + 1) (xs (i + 1)) dL_law_838 hS1 (by decide) rfl (by omega) (by omega) rfl ?_
  refine e_aload_n dL_law_839 rfl ?_
  refine e_iload_n dL_law_840 rfl ?_
  refine e_iconst (nI 2) dL_law_841 (by decide) ?_
  refine e_iaddN dL_law_842 ?_
  refine e_ildX (i + 2) (xs (i + 2)) dL_law_843 hS1 (by decide) rfl (by omega) (by omega) rfl ?_
  refine e_aload_n dL_law_844 rfl ?_
  refine e_iload_n dL_law_845 rfl ?_
  refine e_iconst (nI 3) dL_law_846 (by decide) ?_
  refine e_iaddN dL_law_847 ?_
  refine e_ildX (i + 3) (xs (i + 3)) dL_law_848 hS1 (by decide) rfl (by omega) (by omega) rfl ?_
  refine e_aload_n dL_law_849 rfl ?_
  refine e_iload_n dL_law_850 rfl ?_
  refine e_iconst (nI 4) dL_law_851 (by decide) ?_
  refine e_iaddN dL_law_852 ?_
  refine e_ildX (i + 4) (xs (i + 4)) dL_law_853 hS1 (by decide) rfl (by omega) (by omega) rfl ?_
  refine c_V4i (nc := 4 * n) (ns := 108 * n) (mc := 0) (ms := 0) (N := mX12_law) dL_law_854 lv_L_92 mo_X12_law hR1.cn (Nat.le_of_ble_eq_true rfl) (Nat.le_of_ble_eq_true rfl) (by decide) (rp_law D hI hR1 (xs (i + 1)) (xs (i + 2)) (xs (i + 3)) (xs (i + 4))) (fun h2 hP => ?_)
  obtain ⟨hR2, hF2⟩ := hP
  have hC2 := hC1.fr hR2 hF2
  refine e_icmp_eq 1703 dL_law_857 (by decide) (fun hc => ?_) (fun hc => absurd rfl hc)
  exact kk h2 _ ((hF2.2 0 (Or.inl (by decide))).trans hS1) hC2 hR2 (i_law hI (xs (i + 1)) (xs (i + 2)) (xs (i + 3)) (xs (i + 4)))
set_option maxRecDepth 20000 in
theorem lc_18 (D : En) {post : Option Value → AH → Prop} {L : Nat} {xs : Nat → Int32} {n i : Nat} (hi : i + 6 ≤ L) (hL : L ≤ 384) {h : AH} {s : SS} (hS : h[0]? = some (.inl (6, L, .inl xs))) (hC : ClsS h s) (hR : RefS h s) (hI : INV s) (kk : ∀ h' s', h'[0]? = some (.inl (6, L, .inl xs)) → ClsS h' s' → RefS h' s' → INV s' → Ev D 50 mL_law 1703 [some (.ref 0), some (.ref 11), some (.ref 82), some (.int (nI i))] [] h' (4 * n) (108 * n) post) : Ev D 50 mL_law 862 [some (.ref 0), some (.ref 11), some (.ref 82), some (.int (nI i))] [] h (4 * n + 4) (108 * n + 108) post := by
  refine e_aload_n dL_law_862 rfl ?_
  refine e_aload_n dL_law_863 rfl ?_
  refine e_iload_n dL_law_864 rfl ?_
  refine e_iconst (nI 1) dL_law_865 (by decide) ?_
  refine e_iaddN dL_law_866 ?_
  refine e_ildX (i + 1) (xs (i + 1)) dL_law_867 hS (by decide) rfl (by omega) (by omega) rfl ?_
  refine e_aload_n dL_law_868 rfl ?_
  refine e_iload_n dL_law_869 rfl ?_
  refine e_iconst (nI 2) dL_law_870 (by decide) ?_
  refine e_iaddN dL_law_871 ?_
  refine e_ildX (i + 2) (xs (i + 2)) dL_law_872 hS (by decide) rfl (by omega) (by omega) rfl ?_
  refine c_V2i (nc := 4 * n) (ns := 108 * n) (mc := 4) (ms := 108) (N := mX11_rate) dL_law_873 lv_L_93 mo_X11_rate hC.cn (Nat.le_of_ble_eq_true rfl) (Nat.le_of_ble_eq_true rfl) (by decide) ((cp_rate D hI hC (xs (i + 1)) (xs (i + 2))).more (by decide) (by decide)) (fun h1 hP => ?_)
  obtain ⟨hC1, hF1⟩ := hP
  have hS1 := (hF1.2 0 (Or.inl (by decide))).trans hS
  have hR1 := hR.fr hF1
  refine e_aload_n dL_law_876 rfl ?_
  refine e_aload_n dL_law_877 rfl ?_
  refine e_iload_n dL_law_878 rfl ?_
  refine e_iconst (nI 1) dL_law_879 (by decide) ?_
  refine e_iaddN dL_law_880 ?_
  refine e_ildX (i + 1) (xs (i + 1)) dL_law_881 hS1 (by decide) rfl (by omega) (by omega) rfl ?_
  refine e_aload_n dL_law_882 rfl ?_
  refine e_iload_n dL_law_883 rfl ?_
  refine e_iconst (nI 2) dL_law_884 (by decide) ?_
  refine e_iaddN dL_law_885 ?_
  refine e_ildX (i + 2) (xs (i + 2)) dL_law_886 hS1 (by decide) rfl (by omega) (by omega) rfl ?_
  refine c_V2i (nc := 4 * n) (ns := 108 * n) (mc := 0) (ms := 0) (N := mX12_rate) dL_law_887 lv_L_96 mo_X12_rate hR1.cn (Nat.le_of_ble_eq_true rfl) (Nat.le_of_ble_eq_true rfl) (by decide) (rp_rate D hI hR1 (xs (i + 1)) (xs (i + 2))) (fun h2 hP => ?_)
  obtain ⟨hR2, hF2⟩ := hP
  have hC2 := hC1.fr hR2 hF2
  refine e_icmp_eq 1703 dL_law_890 (by decide) (fun hc => ?_) (fun hc => absurd rfl hc)
  exact kk h2 _ ((hF2.2 0 (Or.inl (by decide))).trans hS1) hC2 hR2 (i_rate hI (xs (i + 1)) (xs (i + 2)))
set_option maxRecDepth 20000 in
theorem lc_19 (D : En) {post : Option Value → AH → Prop} {L : Nat} {xs : Nat → Int32} {n i : Nat} (hi : i + 6 ≤ L) (hL : L ≤ 384) {h : AH} {s : SS} (hS : h[0]? = some (.inl (6, L, .inl xs))) (hC : ClsS h s) (hR : RefS h s) (hI : INV s) (kk : ∀ h' s', h'[0]? = some (.inl (6, L, .inl xs)) → ClsS h' s' → RefS h' s' → INV s' → Ev D 50 mL_law 1703 [some (.ref 0), some (.ref 11), some (.ref 82), some (.int (nI i))] [] h' (4 * n) (108 * n) post) : Ev D 50 mL_law 895 [some (.ref 0), some (.ref 11), some (.ref 82), some (.int (nI i))] [] h (4 * n + 4) (108 * n + 108) post := by
  refine e_aload_n dL_law_895 rfl ?_
  refine e_aload_n dL_law_896 rfl ?_
  refine e_iload_n dL_law_897 rfl ?_
  refine e_iconst (nI 1) dL_law_898 (by decide) ?_
  refine e_iaddN dL_law_899 ?_
  refine e_ildX (i + 1) (xs (i + 1)) dL_law_900 hS (by decide) rfl (by omega) (by omega) rfl ?_
  refine c_V1i (nc := 4 * n) (ns := 108 * n) (mc := 4) (ms := 108) (N := mX11_years) dL_law_901 lv_L_97 mo_X11_years hC.cn (Nat.le_of_ble_eq_true rfl) (Nat.le_of_ble_eq_true rfl) (by decide) ((cp_years D hI hC (xs (i + 1))).more (by decide) (by decide)) (fun h1 hP => ?_)
  obtain ⟨hC1, hF1⟩ := hP
  have hS1 := (hF1.2 0 (Or.inl (by decide))).trans hS
  have hR1 := hR.fr hF1
  refine e_aload_n dL_law_904 rfl ?_
  refine e_aload_n dL_law_905 rfl ?_
  refine e_iload_n dL_law_906 rfl ?_
  refine e_iconst (nI 1) dL_law_907 (by decide) ?_
  refine e_iaddN dL_law_908 ?_
  refine e_ildX (i + 1) (xs (i + 1)) dL_law_909 hS1 (by decide) rfl (by omega) (by omega) rfl ?_
  refine c_V1i (nc := 4 * n) (ns := 108 * n) (mc := 0) (ms := 0) (N := mX12_years) dL_law_910 lv_L_100 mo_X12_years hR1.cn (Nat.le_of_ble_eq_true rfl) (Nat.le_of_ble_eq_true rfl) (by decide) (rp_years D hI hR1 (xs (i + 1))) (fun h2 hP => ?_)
  obtain ⟨hR2, hF2⟩ := hP
  have hC2 := hC1.fr hR2 hF2
  refine e_icmp_eq 1703 dL_law_913 (by decide) (fun hc => ?_) (fun hc => absurd rfl hc)
  exact kk h2 _ ((hF2.2 0 (Or.inl (by decide))).trans hS1) hC2 hR2 (i_years hI (xs (i + 1)))
set_option maxRecDepth 20000 in
theorem lc_20 (D : En) {post : Option Value → AH → Prop} {L : Nat} {xs : Nat → Int32} {n i : Nat} (hi : i + 6 ≤ L) (hL : L ≤ 384) {h : AH} {s : SS} (hS : h[0]? = some (.inl (6, L, .inl xs))) (hC : ClsS h s) (hR : RefS h s) (hI : INV s) (kk : ∀ h' s', h'[0]? = some (.inl (6, L, .inl xs)) → ClsS h' s' → RefS h' s' → INV s' → Ev D 50 mL_law 1703 [some (.ref 0), some (.ref 11), some (.ref 82), some (.int (nI i))] [] h' (4 * n) (108 * n) post) : Ev D 50 mL_law 918 [some (.ref 0), some (.ref 11), some (.ref 82), some (.int (nI i))] [] h (4 * n + 4) (108 * n + 108) post := by
  refine e_aload_n dL_law_918 rfl ?_
  refine e_aload_n dL_law_919 rfl ?_
  refine e_iload_n dL_law_920 rfl ?_
  refine e_iconst (nI 1) dL_law_921 (by decide) ?_
  refine e_iaddN dL_law_922 ?_
  refine e_ildX (i + 1) (xs (i + 1)) dL_law_923 hS (by decide) rfl (by omega) (by omega) rfl ?_
  refine e_aload_n dL_law_924 rfl ?_
  refine e_iload_n dL_law_925 rfl ?_
  refine e_iconst (nI 2) dL_law_926 (by decide) ?_
  refine e_iaddN dL_law_927 ?_
  refine e_ildX (i + 2) (xs (i + 2)) dL_law_928 hS (by decide) rfl (by omega) (by omega) rfl ?_
  refine c_V2i (nc := 4 * n) (ns := 108 * n) (mc := 4) (ms := 108) (N := mX11_left) dL_law_929 lv_L_101 mo_X11_left hC.cn (Nat.le_of_ble_eq_true rfl) (Nat.le_of_ble_eq_true rfl) (by decide) ((cp_left D hI hC (xs (i + 1)) (xs (i + 2))).more (by decide) (by decide)) (fun h1 hP => ?_)
  obtain ⟨hC1, hF1⟩ := hP
  have hS1 := (hF1.2 0 (Or.inl (by decide))).trans hS
  have hR1 := hR.fr hF1
  refine e_aload_n dL_law_932 rfl ?_
  refine e_aload_n dL_law_933 rfl ?_
  refine e_iload_n dL_law_934 rfl ?_
  refine e_iconst (nI 1) dL_law_935 (by decide) ?_
  refine e_iaddN dL_law_936 ?_
  refine e_ildX (i + 1) (xs (i + 1)) dL_law_937 hS1 (by decide) rfl (by omega) (by omega) rfl ?_
  refine e_aload_n dL_law_938 rfl ?_
  refine e_iload_n dL_law_939 rfl ?_
  refine e_iconst (nI 2) dL_law_940 (by decide) ?_
  refine e_iaddN dL_law_941 ?_
  refine e_ildX (i + 2) (xs (i + 2)) dL_law_942 hS1 (by decide) rfl (by omega) (by omega) rfl ?_
  refine c_V2i (nc := 4 * n) (ns := 108 * n) (mc := 0) (ms := 0) (N := mX12_left) dL_law_943 lv_L_104 mo_X12_left hR1.cn (Nat.le_of_ble_eq_true rfl) (Nat.le_of_ble_eq_true rfl) (by decide) (rp_left D hI hR1 (xs (i + 1)) (xs (i + 2))) (fun h2 hP => ?_)
  obtain ⟨hR2, hF2⟩ := hP
  have hC2 := hC1.fr hR2 hF2
  refine e_icmp_eq 1703 dL_law_946 (by decide) (fun hc => ?_) (fun hc => absurd rfl hc)
  exact kk h2 _ ((hF2.2 0 (Or.inl (by decide))).trans hS1) hC2 hR2 (i_left hI (xs (i + 1)) (xs (i + 2)))
set_option maxRecDepth 20000 in
theorem lc_21 (D : En) {post : Option Value → AH → Prop} {L : Nat} {xs : Nat → Int32} {n i : Nat} (hi : i + 6 ≤ L) (hL : L ≤ 384) {h : AH} {s : SS} (hS : h[0]? = some (.inl (6, L, .inl xs))) (hC : ClsS h s) (hR : RefS h s) (hI : INV s) (kk : ∀ h' s', h'[0]? = some (.inl (6, L, .inl xs)) → ClsS h' s' → RefS h' s' → INV s' → Ev D 50 mL_law 1703 [some (.ref 0), some (.ref 11), some (.ref 82), some (.int (nI i))] [] h' (4 * n) (108 * n) post) : Ev D 50 mL_law 951 [some (.ref 0), some (.ref 11), some (.ref 82), some (.int (nI i))] [] h (4 * n + 4) (108 * n + 108) post := by
  refine e_aload_n dL_law_951 rfl ?_
  refine e_aload_n dL_law_952 rfl ?_
  refine e_iload_n dL_law_953 rfl ?_
  refine e_iconst (nI 1) dL_law_954 (by decide) ?_
  refine e_iaddN dL_law_955 ?_
  refine e_ildX (i + 1) (xs (i + 1)) dL_law_956 hS (by decide) rfl (by omega) (by omega) rfl ?_
  refine e_aload_n dL_law_957 rfl ?_
  refine e_iload_n dL_law_958 rfl ?_
  refine e_iconst (nI 2) dL_law_959 (by decide) ?_
  refine e_iaddN dL_law_960 ?_
  refine e_ildX (i + 2) (xs (i + 2)) dL_law_961 hS (by decide) rfl (by omega) (by omega) rfl ?_
  refine e_aload_n dL_law_962 rfl ?_
  refine e_iload_n dL_law_963 rfl ?_
  refine e_iconst (nI 3) dL_law_964 (by decide) ?_
  refine e_iaddN dL_law_965 ?_
  refine e_ildX (i + 3) (xs (i + 3)) dL_law_966 hS (by decide) rfl (by omega) (by omega) rfl ?_
  refine c_V3i (nc := 4 * n) (ns := 108 * n) (mc := 4) (ms := 108) (N := mX11_then) dL_law_967 lv_L_105 mo_X11_then hC.cn (Nat.le_of_ble_eq_true rfl) (Nat.le_of_ble_eq_true rfl) (by decide) ((cp_then D hI hC (xs (i + 1)) (xs (i + 2)) (xs (i + 3))).more (by decide) (by decide)) (fun h1 hP => ?_)
  obtain ⟨hC1, hF1⟩ := hP
  have hS1 := (hF1.2 0 (Or.inl (by decide))).trans hS
  have hR1 := hR.fr hF1
  refine e_aload_n dL_law_970 rfl ?_
  refine e_aload_n dL_law_971 rfl ?_
  refine e_iload_n dL_law_972 rfl ?_
  refine e_iconst (nI 1) dL_law_973 (by decide) ?_
  refine e_iaddN dL_law_974 ?_
  refine e_ildX (i + 1) (xs (i + 1)) dL_law_975 hS1 (by decide) rfl (by omega) (by omega) rfl ?_
  refine e_aload_n dL_law_976 rfl ?_
  refine e_iload_n dL_law_977 rfl ?_
  refine e_iconst (nI 2) dL_law_978 (by decide) ?_
  refine e_iaddN dL_law_979 ?_
  refine e_ildX (i + 2) (xs (i + 2)) dL_law_980 hS1 (by decide) rfl (by omega) (by omega) rfl ?_
  refine e_aload_n dL_law_981 rfl ?_
  refine e_iload_n dL_law_982 rfl ?_
  refine e_iconst (nI 3) dL_law_983 (by decide) ?_
  refine e_iaddN dL_law_984 ?_
  refine e_ildX (i + 3) (xs (i + 3)) dL_law_985 hS1 (by decide) rfl (by omega) (by omega) rfl ?_
  refine c_V3i (nc := 4 * n) (ns := 108 * n) (mc := 0) (ms := 0) (N := mX12_then) dL_law_986 lv_L_108 mo_X12_then hR1.cn (Nat.le_of_ble_eq_true rfl) (Nat.le_of_ble_eq_true rfl) (by decide) (rp_then D hI hR1 (xs (i + 1)) (xs (i + 2)) (xs (i + 3))) (fun h2 hP => ?_)
  obtain ⟨hR2, hF2⟩ := hP
  have hC2 := hC1.fr hR2 hF2
  refine e_icmp_eq 1703 dL_law_989 (by decide) (fun hc => ?_) (fun hc => absurd rfl hc)
  exact kk h2 _ ((hF2.2 0 (Or.inl (by decide))).trans hS1) hC2 hR2 (i_then hI (xs (i + 1)) (xs (i + 2)) (xs (i + 3)))
set_option maxRecDepth 20000 in
theorem lc_22 (D : En) {post : Option Value → AH → Prop} {L : Nat} {xs : Nat → Int32} {n i : Nat} (hi : i + 6 ≤ L) (hL : L ≤ 384) {h : AH} {s : SS} (hS : h[0]? = some (.inl (6, L, .inl xs))) (hC : ClsS h s) (hR : RefS h s) (hI : INV s) (kk : ∀ h' s', h'[0]? = some (.inl (6, L, .inl xs)) → ClsS h' s' → RefS h' s' → INV s' → Ev D 50 mL_law 1703 [some (.ref 0), some (.ref 11), some (.ref 82), some (.int (nI i))] [] h' (4 * n) (108 * n) post) : Ev D 50 mL_law 994 [some (.ref 0), some (.ref 11), some (.ref 82), some (.int (nI i))] [] h (4 * n + 4) (108 * n + 108) post := by
  refine e_aload_n dL_law_994 rfl ?_
  refine e_aload_n dL_law_995 rfl ?_
  refine e_iload_n dL_law_996 rfl ?_
  refine e_iconst (nI 1) dL_law_997 (by decide) ?_
  refine e_iaddN dL_law_998 ?_
  refine e_ildX (i + 1) (xs (i + 1)) dL_law_999 hS (by decide) rfl (by omega) (by omega) rfl ?_
  refine e_aload_n dL_law_1000 rfl ?_
  refine e_iload_n dL_law_1001 rfl ?_
  refine e_iconst (nI 2) dL_law_1002 (by decide) ?_
  refine e_iaddN dL_law_1003 ?_
  refine e_ildX (i + 2) (xs (i + 2)) dL_law_1004 hS (by decide) rfl (by omega) (by omega) rfl ?_
  refine c_V2i (nc := 4 * n) (ns := 108 * n) (mc := 4) (ms := 108) (N := mX11_falls) dL_law_1005 lv_L_109 mo_X11_falls hC.cn (Nat.le_of_ble_eq_true rfl) (Nat.le_of_ble_eq_true rfl) (by decide) ((cp_falls D hI hC (xs (i + 1)) (xs (i + 2))).more (by decide) (by decide)) (fun h1 hP => ?_)
  obtain ⟨hC1, hF1⟩ := hP
  have hS1 := (hF1.2 0 (Or.inl (by decide))).trans hS
  have hR1 := hR.fr hF1
  refine e_aload_n dL_law_1008 rfl ?_
  refine e_aload_n dL_law_1009 rfl ?_
  refine e_iload_n dL_law_1010 rfl ?_
  refine e_iconst (nI 1) dL_law_1011 (by decide) ?_
  refine e_iaddN dL_law_1012 ?_
  refine e_ildX (i + 1) (xs (i + 1)) dL_law_1013 hS1 (by decide) rfl (by omega) (by omega) rfl ?_
  refine e_aload_n dL_law_1014 rfl ?_
  refine e_iload_n dL_law_1015 rfl ?_
  refine e_iconst (nI 2) dL_law_1016 (by decide) ?_
  refine e_iaddN dL_law_1017 ?_
  refine e_ildX (i + 2) (xs (i + 2)) dL_law_1018 hS1 (by decide) rfl (by omega) (by omega) rfl ?_
  refine c_V2i (nc := 4 * n) (ns := 108 * n) (mc := 0) (ms := 0) (N := mX12_falls) dL_law_1019 lv_L_112 mo_X12_falls hR1.cn (Nat.le_of_ble_eq_true rfl) (Nat.le_of_ble_eq_true rfl) (by decide) (rp_falls D hI hR1 (xs (i + 1)) (xs (i + 2))) (fun h2 hP => ?_)
  obtain ⟨hR2, hF2⟩ := hP
  have hC2 := hC1.fr hR2 hF2
  refine e_icmp_eq 1703 dL_law_1022 (by decide) (fun hc => ?_) (fun hc => absurd rfl hc)
  exact kk h2 _ ((hF2.2 0 (Or.inl (by decide))).trans hS1) hC2 hR2 (i_falls hI (xs (i + 1)) (xs (i + 2)))
set_option maxRecDepth 20000 in
theorem lc_23 (D : En) {post : Option Value → AH → Prop} {L : Nat} {xs : Nat → Int32} {n i : Nat} (hi : i + 6 ≤ L) (hL : L ≤ 384) {h : AH} {s : SS} (hS : h[0]? = some (.inl (6, L, .inl xs))) (hC : ClsS h s) (hR : RefS h s) (hI : INV s) (kk : ∀ h' s', h'[0]? = some (.inl (6, L, .inl xs)) → ClsS h' s' → RefS h' s' → INV s' → Ev D 50 mL_law 1703 [some (.ref 0), some (.ref 11), some (.ref 82), some (.int (nI i))] [] h' (4 * n) (108 * n) post) : Ev D 50 mL_law 1027 [some (.ref 0), some (.ref 11), some (.ref 82), some (.int (nI i))] [] h (4 * n + 4) (108 * n + 108) post := by
  refine e_aload_n dL_law_1027 rfl ?_
  refine e_aload_n dL_law_1028 rfl ?_
  refine e_iload_n dL_law_1029 rfl ?_
  refine e_iconst (nI 1) dL_law_1030 (by decide) ?_
  refine e_iaddN dL_law_1031 ?_
  refine e_ildX (i + 1) (xs (i + 1)) dL_law_1032 hS (by decide) rfl (by omega) (by omega) rfl ?_
  refine c_V1i (nc := 4 * n) (ns := 108 * n) (mc := 4) (ms := 108) (N := mX11_broke) dL_law_1033 lv_L_113 mo_X11_broke hC.cn (Nat.le_of_ble_eq_true rfl) (Nat.le_of_ble_eq_true rfl) (by decide) ((cp_broke D hI hC (xs (i + 1))).more (by decide) (by decide)) (fun h1 hP => ?_)
  obtain ⟨hC1, hF1⟩ := hP
  have hS1 := (hF1.2 0 (Or.inl (by decide))).trans hS
  have hR1 := hR.fr hF1
  refine e_aload_n dL_law_1036 rfl ?_
  refine e_aload_n dL_law_1037 rfl ?_
  refine e_iload_n dL_law_1038 rfl ?_
  refine e_iconst (nI 1) dL_law_1039 (by decide) ?_
  refine e_iaddN dL_law_1040 ?_
  refine e_ildX (i + 1) (xs (i + 1)) dL_law_1041 hS1 (by decide) rfl (by omega) (by omega) rfl ?_
  refine c_V1i (nc := 4 * n) (ns := 108 * n) (mc := 0) (ms := 0) (N := mX12_broke) dL_law_1042 lv_L_116 mo_X12_broke hR1.cn (Nat.le_of_ble_eq_true rfl) (Nat.le_of_ble_eq_true rfl) (by decide) (rp_broke D hI hR1 (xs (i + 1))) (fun h2 hP => ?_)
  obtain ⟨hR2, hF2⟩ := hP
  have hC2 := hC1.fr hR2 hF2
  refine e_icmp_eq 1703 dL_law_1045 (by decide) (fun hc => ?_) (fun hc => absurd rfl hc)
  exact kk h2 _ ((hF2.2 0 (Or.inl (by decide))).trans hS1) hC2 hR2 (i_broke hI (xs (i + 1)))
set_option maxRecDepth 20000 in
theorem lc_24 (D : En) {post : Option Value → AH → Prop} {L : Nat} {xs : Nat → Int32} {n i : Nat} (hi : i + 6 ≤ L) (hL : L ≤ 384) {h : AH} {s : SS} (hS : h[0]? = some (.inl (6, L, .inl xs))) (hC : ClsS h s) (hR : RefS h s) (hI : INV s) (kk : ∀ h' s', h'[0]? = some (.inl (6, L, .inl xs)) → ClsS h' s' → RefS h' s' → INV s' → Ev D 50 mL_law 1703 [some (.ref 0), some (.ref 11), some (.ref 82), some (.int (nI i))] [] h' (4 * n) (108 * n) post) : Ev D 50 mL_law 1050 [some (.ref 0), some (.ref 11), some (.ref 82), some (.int (nI i))] [] h (4 * n + 4) (108 * n + 108) post := by
  refine e_aload_n dL_law_1050 rfl ?_
  refine e_aload_n dL_law_1051 rfl ?_
  refine e_iload_n dL_law_1052 rfl ?_
  refine e_iconst (nI 1) dL_law_1053 (by decide) ?_
  refine e_iaddN dL_law_1054 ?_
  refine e_ildX (i + 1) (xs (i + 1)) dL_law_1055 hS (by decide) rfl (by omega) (by omega) rfl ?_
  refine c_V1i (nc := 4 * n) (ns := 108 * n) (mc := 4) (ms := 108) (N := mX11_rest) dL_law_1056 lv_L_117 mo_X11_rest hC.cn (Nat.le_of_ble_eq_true rfl) (Nat.le_of_ble_eq_true rfl) (by decide) ((cp_rest D hI hC (xs (i + 1))).more (by decide) (by decide)) (fun h1 hP => ?_)
  obtain ⟨hC1, hF1⟩ := hP
  have hS1 := (hF1.2 0 (Or.inl (by decide))).trans hS
  have hR1 := hR.fr hF1
  refine e_aload_n dL_law_1059 rfl ?_
  refine e_aload_n dL_law_1060 rfl ?_
  refine e_iload_n dL_law_1061 rfl ?_
  refine e_iconst (nI 1) dL_law_1062 (by decide) ?_
  refine e_iaddN dL_law_1063 ?_
  refine e_ildX (i + 1) (xs (i + 1)) dL_law_1064 hS1 (by decide) rfl (by omega) (by omega) rfl ?_
  refine c_V1i (nc := 4 * n) (ns := 108 * n) (mc := 0) (ms := 0) (N := mX12_rest) dL_law_1065 lv_L_120 mo_X12_rest hR1.cn (Nat.le_of_ble_eq_true rfl) (Nat.le_of_ble_eq_true rfl) (by decide) (rp_rest D hI hR1 (xs (i + 1))) (fun h2 hP => ?_)
  obtain ⟨hR2, hF2⟩ := hP
  have hC2 := hC1.fr hR2 hF2
  refine e_icmp_eq 1703 dL_law_1068 (by decide) (fun hc => ?_) (fun hc => absurd rfl hc)
  exact kk h2 _ ((hF2.2 0 (Or.inl (by decide))).trans hS1) hC2 hR2 (i_rest hI (xs (i + 1)))
set_option maxRecDepth 20000 in
theorem lc_25 (D : En) {post : Option Value → AH → Prop} {L : Nat} {xs : Nat → Int32} {n i : Nat} (hi : i + 6 ≤ L) (hL : L ≤ 384) {h : AH} {s : SS} (hS : h[0]? = some (.inl (6, L, .inl xs))) (hC : ClsS h s) (hR : RefS h s) (hI : INV s) (kk : ∀ h' s', h'[0]? = some (.inl (6, L, .inl xs)) → ClsS h' s' → RefS h' s' → INV s' → Ev D 50 mL_law 1703 [some (.ref 0), some (.ref 11), some (.ref 82), some (.int (nI i))] [] h' (4 * n) (108 * n) post) : Ev D 50 mL_law 1073 [some (.ref 0), some (.ref 11), some (.ref 82), some (.int (nI i))] [] h (4 * n + 4) (108 * n + 108) post := by
  refine e_aload_n dL_law_1073 rfl ?_
  refine e_aload_n dL_law_1074 rfl ?_
  refine e_iload_n dL_law_1075 rfl ?_
  refine e_iconst (nI 1) dL_law_1076 (by decide) ?_
  refine e_iaddN dL_law_1077 ?_
  refine e_ildX (i + 1) (xs (i + 1)) dL_law_1078 hS (by decide) rfl (by omega) (by omega) rfl ?_
  refine e_aload_n dL_law_1079 rfl ?_
  refine e_iload_n dL_law_1080 rfl ?_
  refine e_iconst (nI 2) dL_law_1081 (by decide) ?_
  refine e_iaddN dL_law_1082 ?_
  refine e_ildX (i + 2) (xs (i + 2)) dL_law_1083 hS (by decide) rfl (by omega) (by omega) rfl ?_
  refine e_aload_n dL_law_1084 rfl ?_
  refine e_iload_n dL_law_1085 rfl ?_
  refine e_iconst (nI 3) dL_law_1086 (by decide) ?_
  refine e_iaddN dL_law_1087 ?_
  refine e_ildX (i + 3) (xs (i + 3)) dL_law_1088 hS (by decide) rfl (by omega) (by omega) rfl ?_
  refine c_V3i (nc := 4 * n) (ns := 108 * n) (mc := 4) (ms := 108) (N := mX11_keep) dL_law_1089 lv_L_121 mo_X11_keep hC.cn (Nat.le_of_ble_eq_true rfl) (Nat.le_of_ble_eq_true rfl) (by decide) ((cp_keep D hI hC (xs (i + 1)) (xs (i + 2)) (xs (i + 3))).more (by decide) (by decide)) (fun h1 hP => ?_)
  obtain ⟨hC1, hF1⟩ := hP
  have hS1 := (hF1.2 0 (Or.inl (by decide))).trans hS
  have hR1 := hR.fr hF1
  refine e_aload_n dL_law_1092 rfl ?_
  refine e_aload_n dL_law_1093 rfl ?_
  refine e_iload_n dL_law_1094 rfl ?_
  refine e_iconst (nI 1) dL_law_1095 (by decide) ?_
  refine e_iaddN dL_law_1096 ?_
  refine e_ildX (i + 1) (xs (i + 1)) dL_law_1097 hS1 (by decide) rfl (by omega) (by omega) rfl ?_
  refine e_aload_n dL_law_1098 rfl ?_
  refine e_iload_n dL_law_1099 rfl ?_
  refine e_iconst (nI 2) dL_law_1100 (by decide) ?_
  refine e_iaddN dL_law_1101 ?_
  refine e_ildX (i + 2) (xs (i + 2)) dL_law_1102 hS1 (by decide) rfl (by omega) (by omega) rfl ?_
  refine e_aload_n dL_law_1103 rfl ?_
  refine e_iload_n dL_law_1104 rfl ?_
  refine e_iconst (nI 3) dL_law_1105 (by decide) ?_
  refine e_iaddN dL_law_1106 ?_
  refine e_ildX (i + 3) (xs (i + 3)) dL_law_1107 hS1 (by decide) rfl (by omega) (by omega) rfl ?_
  refine c_V3i (nc := 4 * n) (ns := 108 * n) (mc := 0) (ms := 0) (N := mX12_keep) dL_law_1108 lv_L_124 mo_X12_keep hR1.cn (Nat.le_of_ble_eq_true rfl) (Nat.le_of_ble_eq_true rfl) (by decide) (rp_keep D hI hR1 (xs (i + 1)) (xs (i + 2)) (xs (i + 3))) (fun h2 hP => ?_)
  obtain ⟨hR2, hF2⟩ := hP
  have hC2 := hC1.fr hR2 hF2
  refine e_icmp_eq 1703 dL_law_1111 (by decide) (fun hc => ?_) (fun hc => absurd rfl hc)
  exact kk h2 _ ((hF2.2 0 (Or.inl (by decide))).trans hS1) hC2 hR2 (i_keep hI (xs (i + 1)) (xs (i + 2)) (xs (i + 3)))
set_option maxRecDepth 20000 in
theorem lc_26 (D : En) {post : Option Value → AH → Prop} {L : Nat} {xs : Nat → Int32} {n i : Nat} (hi : i + 6 ≤ L) (hL : L ≤ 384) {h : AH} {s : SS} (hS : h[0]? = some (.inl (6, L, .inl xs))) (hC : ClsS h s) (hR : RefS h s) (hI : INV s) (kk : ∀ h' s', h'[0]? = some (.inl (6, L, .inl xs)) → ClsS h' s' → RefS h' s' → INV s' → Ev D 50 mL_law 1703 [some (.ref 0), some (.ref 11), some (.ref 82), some (.int (nI i))] [] h' (4 * n) (108 * n) post) : Ev D 50 mL_law 1116 [some (.ref 0), some (.ref 11), some (.ref 82), some (.int (nI i))] [] h (4 * n + 4) (108 * n + 108) post := by
  refine e_aload_n dL_law_1116 rfl ?_
  refine e_aload_n dL_law_1117 rfl ?_
  refine e_iload_n dL_law_1118 rfl ?_
  refine e_iconst (nI 1) dL_law_1119 (by decide) ?_
  refine e_iaddN dL_law_1120 ?_
  refine e_ildX (i + 1) (xs (i + 1)) dL_law_1121 hS (by decide) rfl (by omega) (by omega) rfl ?_
  refine e_aload_n dL_law_1122 rfl ?_
  refine e_iload_n dL_law_1123 rfl ?_
  refine e_iconst (nI 2) dL_law_1124 (by decide) ?_
  refine e_iaddN dL_law_1125 ?_
  refine e_ildX (i + 2) (xs (i + 2)) dL_law_1126 hS (by decide) rfl (by omega) (by omega) rfl ?_
  refine c_V2i (nc := 4 * n) (ns := 108 * n) (mc := 4) (ms := 108) (N := mX11_when) dL_law_1127 lv_L_125 mo_X11_when hC.cn (Nat.le_of_ble_eq_true rfl) (Nat.le_of_ble_eq_true rfl) (by decide) ((cp_when D hI hC (xs (i + 1)) (xs (i + 2))).more (by decide) (by decide)) (fun h1 hP => ?_)
  obtain ⟨hC1, hF1⟩ := hP
  have hS1 := (hF1.2 0 (Or.inl (by decide))).trans hS
  have hR1 := hR.fr hF1
  refine e_aload_n dL_law_1130 rfl ?_
  refine e_aload_n dL_law_1131 rfl ?_
  refine e_iload_n dL_law_1132 rfl ?_
  refine e_iconst (nI 1) dL_law_1133 (by decide) ?_
  refine e_iaddN dL_law_1134 ?_
  refine e_ildX (i + 1) (xs (i + 1)) dL_law_1135 hS1 (by decide) rfl (by omega) (by omega) rfl ?_
  refine e_aload_n dL_law_1136 rfl ?_
  refine e_iload_n dL_law_1137 rfl ?_
  refine e_iconst (nI 2) dL_law_1138 (by decide) ?_
  refine e_iaddN dL_law_1139 ?_
  refine e_ildX (i + 2) (xs (i + 2)) dL_law_1140 hS1 (by decide) rfl (by omega) (by omega) rfl ?_
  refine c_V2i (nc := 4 * n) (ns := 108 * n) (mc := 0) (ms := 0) (N := mX12_when) dL_law_1141 lv_L_128 mo_X12_when hR1.cn (Nat.le_of_ble_eq_true rfl) (Nat.le_of_ble_eq_true rfl) (by decide) (rp_when D hI hR1 (xs (i + 1)) (xs (i + 2))) (fun h2 hP => ?_)
  obtain ⟨hR2, hF2⟩ := hP
  have hC2 := hC1.fr hR2 hF2
  refine e_icmp_eq 1703 dL_law_1144 (by decide) (fun hc => ?_) (fun hc => absurd rfl hc)
  exact kk h2 _ ((hF2.2 0 (Or.inl (by decide))).trans hS1) hC2 hR2 (i_when hI (xs (i + 1)) (xs (i + 2)))
set_option maxRecDepth 20000 in
theorem lc_27 (D : En) {post : Option Value → AH → Prop} {L : Nat} {xs : Nat → Int32} {n i : Nat} (hi : i + 6 ≤ L) (hL : L ≤ 384) {h : AH} {s : SS} (hS : h[0]? = some (.inl (6, L, .inl xs))) (hC : ClsS h s) (hR : RefS h s) (hI : INV s) (kk : ∀ h' s', h'[0]? = some (.inl (6, L, .inl xs)) → ClsS h' s' → RefS h' s' → INV s' → Ev D 50 mL_law 1703 [some (.ref 0), some (.ref 11), some (.ref 82), some (.int (nI i))] [] h' (4 * n) (108 * n) post) : Ev D 50 mL_law 1149 [some (.ref 0), some (.ref 11), some (.ref 82), some (.int (nI i))] [] h (4 * n + 4) (108 * n + 108) post := by
  refine e_aload_n dL_law_1149 rfl ?_
  refine e_aload_n dL_law_1150 rfl ?_
  refine e_iload_n dL_law_1151 rfl ?_
  refine e_iconst (nI 1) dL_law_1152 (by decide) ?_
  refine e_iaddN dL_law_1153 ?_
  refine e_ildX (i + 1) (xs (i + 1)) dL_law_1154 hS (by decide) rfl (by omega) (by omega) rfl ?_
  refine e_aload_n dL_law_1155 rfl ?_
  refine e_iload_n dL_law_1156 rfl ?_
  refine e_iconst (nI 2) dL_law_1157 (by decide) ?_
  refine e_iaddN dL_law_1158 ?_
  refine e_ildX (i + 2) (xs (i + 2)) dL_law_1159 hS (by decide) rfl (by omega) (by omega) rfl ?_
  refine c_V2i (nc := 4 * n) (ns := 108 * n) (mc := 4) (ms := 108) (N := mX11_worth) dL_law_1160 lv_L_129 mo_X11_worth hC.cn (Nat.le_of_ble_eq_true rfl) (Nat.le_of_ble_eq_true rfl) (by decide) ((cp_worth D hI hC (xs (i + 1)) (xs (i + 2))).more (by decide) (by decide)) (fun h1 hP => ?_)
  obtain ⟨hC1, hF1⟩ := hP
  have hS1 := (hF1.2 0 (Or.inl (by decide))).trans hS
  have hR1 := hR.fr hF1
  refine e_aload_n dL_law_1163 rfl ?_
  refine e_aload_n dL_law_1164 rfl ?_
  refine e_iload_n dL_law_1165 rfl ?_
  refine e_iconst (nI 1) dL_law_1166 (by decide) ?_
  refine e_iaddN dL_law_1167 ?_
  refine e_ildX (i + 1) (xs (i + 1)) dL_law_1168 hS1 (by decide) rfl (by omega) (by omega) rfl ?_
  refine e_aload_n dL_law_1169 rfl ?_
  refine e_iload_n dL_law_1170 rfl ?_
  refine e_iconst (nI 2) dL_law_1171 (by decide) ?_
  refine e_iaddN dL_law_1172 ?_
  refine e_ildX (i + 2) (xs (i + 2)) dL_law_1173 hS1 (by decide) rfl (by omega) (by omega) rfl ?_
  refine c_V2i (nc := 4 * n) (ns := 108 * n) (mc := 0) (ms := 0) (N := mX12_worth) dL_law_1174 lv_L_132 mo_X12_worth hR1.cn (Nat.le_of_ble_eq_true rfl) (Nat.le_of_ble_eq_true rfl) (by decide) (rp_worth D hI hR1 (xs (i + 1)) (xs (i + 2))) (fun h2 hP => ?_)
  obtain ⟨hR2, hF2⟩ := hP
  have hC2 := hC1.fr hR2 hF2
  refine e_icmp_eq 1703 dL_law_1177 (by decide) (fun hc => ?_) (fun hc => absurd rfl hc)
  exact kk h2 _ ((hF2.2 0 (Or.inl (by decide))).trans hS1) hC2 hR2 (i_worth hI (xs (i + 1)) (xs (i + 2)))
set_option maxRecDepth 20000 in
theorem lc_28 (D : En) {post : Option Value → AH → Prop} {L : Nat} {xs : Nat → Int32} {n i : Nat} (hi : i + 6 ≤ L) (hL : L ≤ 384) {h : AH} {s : SS} (hS : h[0]? = some (.inl (6, L, .inl xs))) (hC : ClsS h s) (hR : RefS h s) (hI : INV s) (kk : ∀ h' s', h'[0]? = some (.inl (6, L, .inl xs)) → ClsS h' s' → RefS h' s' → INV s' → Ev D 50 mL_law 1703 [some (.ref 0), some (.ref 11), some (.ref 82), some (.int (nI i))] [] h' (4 * n) (108 * n) post) : Ev D 50 mL_law 1182 [some (.ref 0), some (.ref 11), some (.ref 82), some (.int (nI i))] [] h (4 * n + 4) (108 * n + 108) post := by
  refine e_aload_n dL_law_1182 rfl ?_
  refine e_aload_n dL_law_1183 rfl ?_
  refine e_iload_n dL_law_1184 rfl ?_
  refine e_iconst (nI 1) dL_law_1185 (by decide) ?_
  refine e_iaddN dL_law_1186 ?_
  refine e_ildX (i + 1) (xs (i + 1)) dL_law_1187 hS (by decide) rfl (by omega) (by omega) rfl ?_
  refine e_aload_n dL_law_1188 rfl ?_
  refine e_iload_n dL_law_1189 rfl ?_
  refine e_iconst (nI 2) dL_law_1190 (by decide) ?_
  refine e_iaddN dL_law_1191 ?_
  refine e_ildX (i + 2) (xs (i + 2)) dL_law_1192 hS (by decide) rfl (by omega) (by omega) rfl ?_
  refine e_aload_n dL_law_1193 rfl ?_
  refine e_iload_n dL_law_1194 rfl ?_
  refine e_iconst (nI 3) dL_law_1195 (by decide) ?_
  refine e_iaddN dL_law_1196 ?_
  refine e_ildX (i + 3) (xs (i + 3)) dL_law_1197 hS (by decide) rfl (by omega) (by omega) rfl ?_
  refine c_V3i (nc := 4 * n) (ns := 108 * n) (mc := 4) (ms := 108) (N := mX11_promised) dL_law_1198 lv_L_133 mo_X11_promised hC.cn (Nat.le_of_ble_eq_true rfl) (Nat.le_of_ble_eq_true rfl) (by decide) ((cp_promised D hI hC (xs (i + 1)) (xs (i + 2)) (xs (i + 3))).more (by decide) (by decide)) (fun h1 hP => ?_)
  obtain ⟨hC1, hF1⟩ := hP
  have hS1 := (hF1.2 0 (Or.inl (by decide))).trans hS
  have hR1 := hR.fr hF1
  refine e_aload_n dL_law_1201 rfl ?_
  refine e_aload_n dL_law_1202 rfl ?_
  refine e_iload_n dL_law_1203 rfl ?_
  refine e_iconst (nI 1) dL_law_1204 (by decide) ?_
  refine e_iaddN dL_law_1205 ?_
  refine e_ildX (i + 1) (xs (i + 1)) dL_law_1206 hS1 (by decide) rfl (by omega) (by omega) rfl ?_
  refine e_aload_n dL_law_1207 rfl ?_
  refine e_iload_n dL_law_1208 rfl ?_
  refine e_iconst (nI 2) dL_law_1209 (by decide) ?_
  refine e_iaddN dL_law_1210 ?_
  refine e_ildX (i + 2) (xs (i + 2)) dL_law_1211 hS1 (by decide) rfl (by omega) (by omega) rfl ?_
  refine e_aload_n dL_law_1212 rfl ?_
  refine e_iload_n dL_law_1213 rfl ?_
  refine e_iconst (nI 3) dL_law_1214 (by decide) ?_
  refine e_iaddN dL_law_1215 ?_
  refine e_ildX (i + 3) (xs (i + 3)) dL_law_1216 hS1 (by decide) rfl (by omega) (by omega) rfl ?_
  refine c_V3i (nc := 4 * n) (ns := 108 * n) (mc := 0) (ms := 0) (N := mX12_promised) dL_law_1217 lv_L_136 mo_X12_promised hR1.cn (Nat.le_of_ble_eq_true rfl) (Nat.le_of_ble_eq_true rfl) (by decide) (rp_promised D hI hR1 (xs (i + 1)) (xs (i + 2)) (xs (i + 3))) (fun h2 hP => ?_)
  obtain ⟨hR2, hF2⟩ := hP
  have hC2 := hC1.fr hR2 hF2
  refine e_icmp_eq 1703 dL_law_1220 (by decide) (fun hc => ?_) (fun hc => absurd rfl hc)
  exact kk h2 _ ((hF2.2 0 (Or.inl (by decide))).trans hS1) hC2 hR2 (i_promised hI (xs (i + 1)) (xs (i + 2)) (xs (i + 3)))
set_option maxRecDepth 20000 in
theorem lc_29 (D : En) {post : Option Value → AH → Prop} {L : Nat} {xs : Nat → Int32} {n i : Nat} (hi : i + 6 ≤ L) (hL : L ≤ 384) {h : AH} {s : SS} (hS : h[0]? = some (.inl (6, L, .inl xs))) (hC : ClsS h s) (hR : RefS h s) (hI : INV s) (kk : ∀ h' s', h'[0]? = some (.inl (6, L, .inl xs)) → ClsS h' s' → RefS h' s' → INV s' → Ev D 50 mL_law 1703 [some (.ref 0), some (.ref 11), some (.ref 82), some (.int (nI i))] [] h' (4 * n) (108 * n) post) : Ev D 50 mL_law 1225 [some (.ref 0), some (.ref 11), some (.ref 82), some (.int (nI i))] [] h (4 * n + 4) (108 * n + 108) post := by
  refine e_aload_n dL_law_1225 rfl ?_
  refine e_aload_n dL_law_1226 rfl ?_
  refine e_iload_n dL_law_1227 rfl ?_
  refine e_iconst (nI 1) dL_law_1228 (by decide) ?_
  refine e_iaddN dL_law_1229 ?_
  refine e_ildX (i + 1) (xs (i + 1)) dL_law_1230 hS (by decide) rfl (by omega) (by omega) rfl ?_
  refine e_aload_n dL_law_1231 rfl ?_
  refine e_iload_n dL_law_1232 rfl ?_
  refine e_iconst (nI 2) dL_law_1233 (by decide) ?_
  refine e_iaddN dL_law_1234 ?_
  refine e_ildX (i + 2) (xs (i + 2)) dL_law_1235 hS (by decide) rfl (by omega) (by omega) rfl ?_
  refine c_V2i (nc := 4 * n) (ns := 108 * n) (mc := 4) (ms := 108) (N := mX11_edge) dL_law_1236 lv_L_137 mo_X11_edge hC.cn (Nat.le_of_ble_eq_true rfl) (Nat.le_of_ble_eq_true rfl) (by decide) ((cp_edge D hI hC (xs (i + 1)) (xs (i + 2))).more (by decide) (by decide)) (fun h1 hP => ?_)
  obtain ⟨hC1, hF1⟩ := hP
  have hS1 := (hF1.2 0 (Or.inl (by decide))).trans hS
  have hR1 := hR.fr hF1
  refine e_aload_n dL_law_1239 rfl ?_
  refine e_aload_n dL_law_1240 rfl ?_
  refine e_iload_n dL_law_1241 rfl ?_
  refine e_iconst (nI 1) dL_law_1242 (by decide) ?_
  refine e_iaddN dL_law_1243 ?_
  refine e_ildX (i + 1) (xs (i + 1)) dL_law_1244 hS1 (by decide) rfl (by omega) (by omega) rfl ?_
  refine e_aload_n dL_law_1245 rfl ?_
  refine e_iload_n dL_law_1246 rfl ?_
  refine e_iconst (nI 2) dL_law_1247 (by decide) ?_
  refine e_iaddN dL_law_1248 ?_
  refine e_ildX (i + 2) (xs (i + 2)) dL_law_1249 hS1 (by decide) rfl (by omega) (by omega) rfl ?_
  refine c_V2i (nc := 4 * n) (ns := 108 * n) (mc := 0) (ms := 0) (N := mX12_edge) dL_law_1250 lv_L_140 mo_X12_edge hR1.cn (Nat.le_of_ble_eq_true rfl) (Nat.le_of_ble_eq_true rfl) (by decide) (rp_edge D hI hR1 (xs (i + 1)) (xs (i + 2))) (fun h2 hP => ?_)
  obtain ⟨hR2, hF2⟩ := hP
  have hC2 := hC1.fr hR2 hF2
  refine e_icmp_eq 1703 dL_law_1253 (by decide) (fun hc => ?_) (fun hc => absurd rfl hc)
  exact kk h2 _ ((hF2.2 0 (Or.inl (by decide))).trans hS1) hC2 hR2 (i_edge hI (xs (i + 1)) (xs (i + 2)))
set_option maxRecDepth 20000 in
theorem lc_30 (D : En) {post : Option Value → AH → Prop} {L : Nat} {xs : Nat → Int32} {n i : Nat} (hi : i + 6 ≤ L) (hL : L ≤ 384) {h : AH} {s : SS} (hS : h[0]? = some (.inl (6, L, .inl xs))) (hC : ClsS h s) (hR : RefS h s) (hI : INV s) (kk : ∀ h' s', h'[0]? = some (.inl (6, L, .inl xs)) → ClsS h' s' → RefS h' s' → INV s' → Ev D 50 mL_law 1703 [some (.ref 0), some (.ref 11), some (.ref 82), some (.int (nI i))] [] h' (4 * n) (108 * n) post) : Ev D 50 mL_law 1258 [some (.ref 0), some (.ref 11), some (.ref 82), some (.int (nI i))] [] h (4 * n + 4) (108 * n + 108) post := by
  refine e_aload_n dL_law_1258 rfl ?_
  refine e_aload_n dL_law_1259 rfl ?_
  refine e_iload_n dL_law_1260 rfl ?_
  refine e_iconst (nI 1) dL_law_1261 (by decide) ?_
  refine e_iaddN dL_law_1262 ?_
  refine e_ildX (i + 1) (xs (i + 1)) dL_law_1263 hS (by decide) rfl (by omega) (by omega) rfl ?_
  refine e_aload_n dL_law_1264 rfl ?_
  refine e_iload_n dL_law_1265 rfl ?_
  refine e_iconst (nI 2) dL_law_1266 (by decide) ?_
  refine e_iaddN dL_law_1267 ?_
  refine e_ildX (i + 2) (xs (i + 2)) dL_law_1268 hS (by decide) rfl (by omega) (by omega) rfl ?_
  refine c_V2i (nc := 4 * n) (ns := 108 * n) (mc := 4) (ms := 108) (N := mX11_site) dL_law_1269 lv_L_141 mo_X11_site hC.cn (Nat.le_of_ble_eq_true rfl) (Nat.le_of_ble_eq_true rfl) (by decide) ((cp_site D hI hC (xs (i + 1)) (xs (i + 2))).more (by decide) (by decide)) (fun h1 hP => ?_)
  obtain ⟨hC1, hF1⟩ := hP
  have hS1 := (hF1.2 0 (Or.inl (by decide))).trans hS
  have hR1 := hR.fr hF1
  refine e_aload_n dL_law_1272 rfl ?_
  refine e_aload_n dL_law_1273 rfl ?_
  refine e_iload_n dL_law_1274 rfl ?_
  refine e_iconst (nI 1) dL_law_1275 (by decide) ?_
  refine e_iaddN dL_law_1276 ?_
  refine e_ildX (i + 1) (xs (i + 1)) dL_law_1277 hS1 (by decide) rfl (by omega) (by omega) rfl ?_
  refine e_aload_n dL_law_1278 rfl ?_
  refine e_iload_n dL_law_1279 rfl ?_
  refine e_iconst (nI 2) dL_law_1280 (by decide) ?_
  refine e_iaddN dL_law_1281 ?_
  refine e_ildX (i + 2) (xs (i + 2)) dL_law_1282 hS1 (by decide) rfl (by omega) (by omega) rfl ?_
  refine c_V2i (nc := 4 * n) (ns := 108 * n) (mc := 0) (ms := 0) (N := mX12_site) dL_law_1283 lv_L_144 mo_X12_site hR1.cn (Nat.le_of_ble_eq_true rfl) (Nat.le_of_ble_eq_true rfl) (by decide) (rp_site D hI hR1 (xs (i + 1)) (xs (i + 2))) (fun h2 hP => ?_)
  obtain ⟨hR2, hF2⟩ := hP
  have hC2 := hC1.fr hR2 hF2
  refine e_icmp_eq 1703 dL_law_1286 (by decide) (fun hc => ?_) (fun hc => absurd rfl hc)
  exact kk h2 _ ((hF2.2 0 (Or.inl (by decide))).trans hS1) hC2 hR2 (i_site hI (xs (i + 1)) (xs (i + 2)))
set_option maxRecDepth 20000 in
theorem lc_31 (D : En) {post : Option Value → AH → Prop} {L : Nat} {xs : Nat → Int32} {n i : Nat} (hi : i + 6 ≤ L) (hL : L ≤ 384) {h : AH} {s : SS} (hS : h[0]? = some (.inl (6, L, .inl xs))) (hC : ClsS h s) (hR : RefS h s) (hI : INV s) (kk : ∀ h' s', h'[0]? = some (.inl (6, L, .inl xs)) → ClsS h' s' → RefS h' s' → INV s' → Ev D 50 mL_law 1703 [some (.ref 0), some (.ref 11), some (.ref 82), some (.int (nI i))] [] h' (4 * n) (108 * n) post) : Ev D 50 mL_law 1291 [some (.ref 0), some (.ref 11), some (.ref 82), some (.int (nI i))] [] h (4 * n + 4) (108 * n + 108) post := by
  refine e_aload_n dL_law_1291 rfl ?_
  refine e_aload_n dL_law_1292 rfl ?_
  refine e_iload_n dL_law_1293 rfl ?_
  refine e_iconst (nI 1) dL_law_1294 (by decide) ?_
  refine e_iaddN dL_law_1295 ?_
  refine e_ildX (i + 1) (xs (i + 1)) dL_law_1296 hS (by decide) rfl (by omega) (by omega) rfl ?_
  refine e_aload_n dL_law_1297 rfl ?_
  refine e_iload_n dL_law_1298 rfl ?_
  refine e_iconst (nI 2) dL_law_1299 (by decide) ?_
  refine e_iaddN dL_law_1300 ?_
  refine e_ildX (i + 2) (xs (i + 2)) dL_law_1301 hS (by decide) rfl (by omega) (by omega) rfl ?_
  refine c_V2i (nc := 4 * n) (ns := 108 * n) (mc := 4) (ms := 108) (N := mX11_join) dL_law_1302 lv_L_145 mo_X11_join hC.cn (Nat.le_of_ble_eq_true rfl) (Nat.le_of_ble_eq_true rfl) (by decide) ((cp_join D hI hC (xs (i + 1)) (xs (i + 2))).more (by decide) (by decide)) (fun h1 hP => ?_)
  obtain ⟨hC1, hF1⟩ := hP
  have hS1 := (hF1.2 0 (Or.inl (by decide))).trans hS
  have hR1 := hR.fr hF1
  refine e_aload_n dL_law_1305 rfl ?_
  refine e_aload_n dL_law_1306 rfl ?_
  refine e_iload_n dL_law_1307 rfl ?_
  refine e_iconst (nI 1) dL_law_1308 (by decide) ?_
  refine e_iaddN dL_law_1309 ?_
  refine e_ildX (i + 1) (xs (i + 1)) dL_law_1310 hS1 (by decide) rfl (by omega) (by omega) rfl ?_
  refine e_aload_n dL_law_1311 rfl ?_
  refine e_iload_n dL_law_1312 rfl ?_
  refine e_iconst (nI 2) dL_law_1313 (by decide) ?_
  refine e_iaddN dL_law_1314 ?_
  refine e_ildX (i + 2) (xs (i + 2)) dL_law_1315 hS1 (by decide) rfl (by omega) (by omega) rfl ?_
  refine c_V2i (nc := 4 * n) (ns := 108 * n) (mc := 0) (ms := 0) (N := mX12_join) dL_law_1316 lv_L_148 mo_X12_join hR1.cn (Nat.le_of_ble_eq_true rfl) (Nat.le_of_ble_eq_true rfl) (by decide) (rp_join D hI hR1 (xs (i + 1)) (xs (i + 2))) (fun h2 hP => ?_)
  obtain ⟨hR2, hF2⟩ := hP
  have hC2 := hC1.fr hR2 hF2
  refine e_icmp_eq 1703 dL_law_1319 (by decide) (fun hc => ?_) (fun hc => absurd rfl hc)
  exact kk h2 _ ((hF2.2 0 (Or.inl (by decide))).trans hS1) hC2 hR2 (i_join hI (xs (i + 1)) (xs (i + 2)))
set_option maxRecDepth 20000 in
theorem lc_32 (D : En) {post : Option Value → AH → Prop} {L : Nat} {xs : Nat → Int32} {n i : Nat} (hi : i + 6 ≤ L) (hL : L ≤ 384) {h : AH} {s : SS} (hS : h[0]? = some (.inl (6, L, .inl xs))) (hC : ClsS h s) (hR : RefS h s) (hI : INV s) (kk : ∀ h' s', h'[0]? = some (.inl (6, L, .inl xs)) → ClsS h' s' → RefS h' s' → INV s' → Ev D 50 mL_law 1703 [some (.ref 0), some (.ref 11), some (.ref 82), some (.int (nI i))] [] h' (4 * n) (108 * n) post) : Ev D 50 mL_law 1324 [some (.ref 0), some (.ref 11), some (.ref 82), some (.int (nI i))] [] h (4 * n + 4) (108 * n + 108) post := by
  refine e_aload_n dL_law_1324 rfl ?_
  refine e_aload_n dL_law_1325 rfl ?_
  refine e_iload_n dL_law_1326 rfl ?_
  refine e_iconst (nI 1) dL_law_1327 (by decide) ?_
  refine e_iaddN dL_law_1328 ?_
  refine e_ildX (i + 1) (xs (i + 1)) dL_law_1329 hS (by decide) rfl (by omega) (by omega) rfl ?_
  refine c_V1i (nc := 4 * n) (ns := 108 * n) (mc := 4) (ms := 108) (N := mX11_road) dL_law_1330 lv_L_149 mo_X11_road hC.cn (Nat.le_of_ble_eq_true rfl) (Nat.le_of_ble_eq_true rfl) (by decide) ((cp_road D hI hC (xs (i + 1))).more (by decide) (by decide)) (fun h1 hP => ?_)
  obtain ⟨hC1, hF1⟩ := hP
  have hS1 := (hF1.2 0 (Or.inl (by decide))).trans hS
  have hR1 := hR.fr hF1
  refine e_aload_n dL_law_1333 rfl ?_
  refine e_aload_n dL_law_1334 rfl ?_
  refine e_iload_n dL_law_1335 rfl ?_
  refine e_iconst (nI 1) dL_law_1336 (by decide) ?_
  refine e_iaddN dL_law_1337 ?_
  refine e_ildX (i + 1) (xs (i + 1)) dL_law_1338 hS1 (by decide) rfl (by omega) (by omega) rfl ?_
  refine c_V1i (nc := 4 * n) (ns := 108 * n) (mc := 0) (ms := 0) (N := mX12_road) dL_law_1339 lv_L_152 mo_X12_road hR1.cn (Nat.le_of_ble_eq_true rfl) (Nat.le_of_ble_eq_true rfl) (by decide) (rp_road D hI hR1 (xs (i + 1))) (fun h2 hP => ?_)
  obtain ⟨hR2, hF2⟩ := hP
  have hC2 := hC1.fr hR2 hF2
  refine e_icmp_eq 1703 dL_law_1342 (by decide) (fun hc => ?_) (fun hc => absurd rfl hc)
  exact kk h2 _ ((hF2.2 0 (Or.inl (by decide))).trans hS1) hC2 hR2 (i_road hI (xs (i + 1)))
set_option maxRecDepth 20000 in
theorem lc_33 (D : En) {post : Option Value → AH → Prop} {L : Nat} {xs : Nat → Int32} {n i : Nat} (hi : i + 6 ≤ L) (hL : L ≤ 384) {h : AH} {s : SS} (hS : h[0]? = some (.inl (6, L, .inl xs))) (hC : ClsS h s) (hR : RefS h s) (hI : INV s) (kk : ∀ h' s', h'[0]? = some (.inl (6, L, .inl xs)) → ClsS h' s' → RefS h' s' → INV s' → Ev D 50 mL_law 1703 [some (.ref 0), some (.ref 11), some (.ref 82), some (.int (nI i))] [] h' (4 * n) (108 * n) post) : Ev D 50 mL_law 1347 [some (.ref 0), some (.ref 11), some (.ref 82), some (.int (nI i))] [] h (4 * n + 4) (108 * n + 108) post := by
  refine e_aload_n dL_law_1347 rfl ?_
  refine e_aload_n dL_law_1348 rfl ?_
  refine e_iload_n dL_law_1349 rfl ?_
  refine e_iconst (nI 1) dL_law_1350 (by decide) ?_
  refine e_iaddN dL_law_1351 ?_
  refine e_ildX (i + 1) (xs (i + 1)) dL_law_1352 hS (by decide) rfl (by omega) (by omega) rfl ?_
  refine c_V1i (nc := 4 * n) (ns := 108 * n) (mc := 4) (ms := 108) (N := mX11_seed) dL_law_1353 lv_L_153 mo_X11_seed hC.cn (Nat.le_of_ble_eq_true rfl) (Nat.le_of_ble_eq_true rfl) (by decide) ((cp_seed D hI hC (xs (i + 1))).more (by decide) (by decide)) (fun h1 hP => ?_)
  obtain ⟨hC1, hF1⟩ := hP
  have hS1 := (hF1.2 0 (Or.inl (by decide))).trans hS
  have hR1 := hR.fr hF1
  refine e_aload_n dL_law_1356 rfl ?_
  refine e_aload_n dL_law_1357 rfl ?_
  refine e_iload_n dL_law_1358 rfl ?_
  refine e_iconst (nI 1) dL_law_1359 (by decide) ?_
  refine e_iaddN dL_law_1360 ?_
  refine e_ildX (i + 1) (xs (i + 1)) dL_law_1361 hS1 (by decide) rfl (by omega) (by omega) rfl ?_
  refine c_V1i (nc := 4 * n) (ns := 108 * n) (mc := 0) (ms := 0) (N := mX12_seed) dL_law_1362 lv_L_156 mo_X12_seed hR1.cn (Nat.le_of_ble_eq_true rfl) (Nat.le_of_ble_eq_true rfl) (by decide) (rp_seed D hI hR1 (xs (i + 1))) (fun h2 hP => ?_)
  obtain ⟨hR2, hF2⟩ := hP
  have hC2 := hC1.fr hR2 hF2
  refine e_icmp_eq 1703 dL_law_1365 (by decide) (fun hc => ?_) (fun hc => absurd rfl hc)
  exact kk h2 _ ((hF2.2 0 (Or.inl (by decide))).trans hS1) hC2 hR2 (i_seed hI (xs (i + 1)))
set_option maxRecDepth 20000 in
theorem lc_34 (D : En) {post : Option Value → AH → Prop} {L : Nat} {xs : Nat → Int32} {n i : Nat} (hi : i + 6 ≤ L) (hL : L ≤ 384) {h : AH} {s : SS} (hS : h[0]? = some (.inl (6, L, .inl xs))) (hC : ClsS h s) (hR : RefS h s) (hI : INV s) (kk : ∀ h' s', h'[0]? = some (.inl (6, L, .inl xs)) → ClsS h' s' → RefS h' s' → INV s' → Ev D 50 mL_law 1703 [some (.ref 0), some (.ref 11), some (.ref 82), some (.int (nI i))] [] h' (4 * n) (108 * n) post) : Ev D 50 mL_law 1370 [some (.ref 0), some (.ref 11), some (.ref 82), some (.int (nI i))] [] h (4 * n + 4) (108 * n + 108) post := by
  refine e_aload_n dL_law_1370 rfl ?_
  refine e_aload_n dL_law_1371 rfl ?_
  refine e_iload_n dL_law_1372 rfl ?_
  refine e_iconst (nI 1) dL_law_1373 (by decide) ?_
  refine e_iaddN dL_law_1374 ?_
  refine e_ildX (i + 1) (xs (i + 1)) dL_law_1375 hS (by decide) rfl (by omega) (by omega) rfl ?_
  refine e_aload_n dL_law_1376 rfl ?_
  refine e_iload_n dL_law_1377 rfl ?_
  refine e_iconst (nI 2) dL_law_1378 (by decide) ?_
  refine e_iaddN dL_law_1379 ?_
  refine e_ildX (i + 2) (xs (i + 2)) dL_law_1380 hS (by decide) rfl (by omega) (by omega) rfl ?_
  refine e_aload_n dL_law_1381 rfl ?_
  refine e_iload_n dL_law_1382 rfl ?_
  refine e_iconst (nI 3) dL_law_1383 (by decide) ?_
  refine e_iaddN dL_law_1384 ?_
  refine e_ildX (i + 3) (xs (i + 3)) dL_law_1385 hS (by decide) rfl (by omega) (by omega) rfl ?_
  refine c_V3i (nc := 4 * n) (ns := 108 * n) (mc := 4) (ms := 108) (N := mX11_voice) dL_law_1386 lv_L_157 mo_X11_voice hC.cn (Nat.le_of_ble_eq_true rfl) (Nat.le_of_ble_eq_true rfl) (by decide) ((cp_voice D hI hC (xs (i + 1)) (xs (i + 2)) (xs (i + 3))).more (by decide) (by decide)) (fun h1 hP => ?_)
  obtain ⟨hC1, hF1⟩ := hP
  have hS1 := (hF1.2 0 (Or.inl (by decide))).trans hS
  have hR1 := hR.fr hF1
  refine e_aload_n dL_law_1389 rfl ?_
  refine e_aload_n dL_law_1390 rfl ?_
  refine e_iload_n dL_law_1391 rfl ?_
  refine e_iconst (nI 1) dL_law_1392 (by decide) ?_
  refine e_iaddN dL_law_1393 ?_
  refine e_ildX (i + 1) (xs (i + 1)) dL_law_1394 hS1 (by decide) rfl (by omega) (by omega) rfl ?_
  refine e_aload_n dL_law_1395 rfl ?_
  refine e_iload_n dL_law_1396 rfl ?_
  refine e_iconst (nI 2) dL_law_1397 (by decide) ?_
  refine e_iaddN dL_law_1398 ?_
  refine e_ildX (i + 2) (xs (i + 2)) dL_law_1399 hS1 (by decide) rfl (by omega) (by omega) rfl ?_
  refine e_aload_n dL_law_1400 rfl ?_
  refine e_iload_n dL_law_1401 rfl ?_
  refine e_iconst (nI 3) dL_law_1402 (by decide) ?_
  refine e_iaddN dL_law_1403 ?_
  refine e_ildX (i + 3) (xs (i + 3)) dL_law_1404 hS1 (by decide) rfl (by omega) (by omega) rfl ?_
  refine c_V3i (nc := 4 * n) (ns := 108 * n) (mc := 0) (ms := 0) (N := mX12_voice) dL_law_1405 lv_L_160 mo_X12_voice hR1.cn (Nat.le_of_ble_eq_true rfl) (Nat.le_of_ble_eq_true rfl) (by decide) (rp_voice D hI hR1 (xs (i + 1)) (xs (i + 2)) (xs (i + 3))) (fun h2 hP => ?_)
  obtain ⟨hR2, hF2⟩ := hP
  have hC2 := hC1.fr hR2 hF2
  refine e_icmp_eq 1703 dL_law_1408 (by decide) (fun hc => ?_) (fun hc => absurd rfl hc)
  exact kk h2 _ ((hF2.2 0 (Or.inl (by decide))).trans hS1) hC2 hR2 (i_voice hI (xs (i + 1)) (xs (i + 2)) (xs (i + 3)))
set_option maxRecDepth 20000 in
theorem lc_35 (D : En) {post : Option Value → AH → Prop} {L : Nat} {xs : Nat → Int32} {n i : Nat} (hi : i + 6 ≤ L) (hL : L ≤ 384) {h : AH} {s : SS} (hS : h[0]? = some (.inl (6, L, .inl xs))) (hC : ClsS h s) (hR : RefS h s) (hI : INV s) (kk : ∀ h' s', h'[0]? = some (.inl (6, L, .inl xs)) → ClsS h' s' → RefS h' s' → INV s' → Ev D 50 mL_law 1703 [some (.ref 0), some (.ref 11), some (.ref 82), some (.int (nI i))] [] h' (4 * n) (108 * n) post) : Ev D 50 mL_law 1413 [some (.ref 0), some (.ref 11), some (.ref 82), some (.int (nI i))] [] h (4 * n + 4) (108 * n + 108) post := by
  refine e_aload_n dL_law_1413 rfl ?_
  refine e_aload_n dL_law_1414 rfl ?_
  refine e_iload_n dL_law_1415 rfl ?_
  refine e_iconst (nI 1) dL_law_1416 (by decide) ?_
  refine e_iaddN dL_law_1417 ?_
  refine e_ildX (i + 1) (xs (i + 1)) dL_law_1418 hS (by decide) rfl (by omega) (by omega) rfl ?_
  refine c_V1i (nc := 4 * n) (ns := 108 * n) (mc := 4) (ms := 108) (N := mX11_trace) dL_law_1419 lv_L_161 mo_X11_trace hC.cn (Nat.le_of_ble_eq_true rfl) (Nat.le_of_ble_eq_true rfl) (by decide) ((cp_trace D hI hC (xs (i + 1))).more (by decide) (by decide)) (fun h1 hP => ?_)
  obtain ⟨hC1, hF1⟩ := hP
  have hS1 := (hF1.2 0 (Or.inl (by decide))).trans hS
  have hR1 := hR.fr hF1
  refine e_aload_n dL_law_1422 rfl ?_
  refine e_aload_n dL_law_1423 rfl ?_
  refine e_iload_n dL_law_1424 rfl ?_
  refine e_iconst (nI 1) dL_law_1425 (by decide) ?_
  refine e_iaddN dL_law_1426 ?_
  refine e_ildX (i + 1) (xs (i + 1)) dL_law_1427 hS1 (by decide) rfl (by omega) (by omega) rfl ?_
  refine c_V1i (nc := 4 * n) (ns := 108 * n) (mc := 0) (ms := 0) (N := mX12_trace) dL_law_1428 lv_L_164 mo_X12_trace hR1.cn (Nat.le_of_ble_eq_true rfl) (Nat.le_of_ble_eq_true rfl) (by decide) (rp_trace D hI hR1 (xs (i + 1))) (fun h2 hP => ?_)
  obtain ⟨hR2, hF2⟩ := hP
  have hC2 := hC1.fr hR2 hF2
  refine e_icmp_eq 1703 dL_law_1431 (by decide) (fun hc => ?_) (fun hc => absurd rfl hc)
  exact kk h2 _ ((hF2.2 0 (Or.inl (by decide))).trans hS1) hC2 hR2 (i_trace hI (xs (i + 1)))
set_option maxRecDepth 20000 in
theorem lc_36 (D : En) {post : Option Value → AH → Prop} {L : Nat} {xs : Nat → Int32} {n i : Nat} (hi : i + 6 ≤ L) (hL : L ≤ 384) {h : AH} {s : SS} (hS : h[0]? = some (.inl (6, L, .inl xs))) (hC : ClsS h s) (hR : RefS h s) (hI : INV s) (kk : ∀ h' s', h'[0]? = some (.inl (6, L, .inl xs)) → ClsS h' s' → RefS h' s' → INV s' → Ev D 50 mL_law 1703 [some (.ref 0), some (.ref 11), some (.ref 82), some (.int (nI i))] [] h' (4 * n) (108 * n) post) : Ev D 50 mL_law 1436 [some (.ref 0), some (.ref 11), some (.ref 82), some (.int (nI i))] [] h (4 * n + 4) (108 * n + 108) post := by
  refine e_aload_n dL_law_1436 rfl ?_
  refine e_aload_n dL_law_1437 rfl ?_
  refine e_iload_n dL_law_1438 rfl ?_
  refine e_iconst (nI 1) dL_law_1439 (by decide) ?_
  refine e_iaddN dL_law_1440 ?_
  refine e_ildX (i + 1) (xs (i + 1)) dL_law_1441 hS (by decide) rfl (by omega) (by omega) rfl ?_
  refine e_aload_n dL_law_1442 rfl ?_
  refine e_iload_n dL_law_1443 rfl ?_
  refine e_iconst (nI 2) dL_law_1444 (by decide) ?_
  refine e_iaddN dL_law_1445 ?_
  refine e_ildX (i + 2) (xs (i + 2)) dL_law_1446 hS (by decide) rfl (by omega) (by omega) rfl ?_
  refine e_aload_n dL_law_1447 rfl ?_
  refine e_iload_n dL_law_1448 rfl ?_
  refine e_iconst (nI 3) dL_law_1449 (by decide) ?_
  refine e_iaddN dL_law_1450 ?_
  refine e_ildX (i + 3) (xs (i + 3)) dL_law_1451 hS (by decide) rfl (by omega) (by omega) rfl ?_
  refine c_V3i (nc := 4 * n) (ns := 108 * n) (mc := 4) (ms := 108) (N := mX11_sheet) dL_law_1452 lv_L_165 mo_X11_sheet hC.cn (Nat.le_of_ble_eq_true rfl) (Nat.le_of_ble_eq_true rfl) (by decide) ((cp_sheet D hI hC (xs (i + 1)) (xs (i + 2)) (xs (i + 3))).more (by decide) (by decide)) (fun h1 hP => ?_)
  obtain ⟨hC1, hF1⟩ := hP
  have hS1 := (hF1.2 0 (Or.inl (by decide))).trans hS
  have hR1 := hR.fr hF1
  refine e_aload_n dL_law_1455 rfl ?_
  refine e_aload_n dL_law_1456 rfl ?_
  refine e_iload_n dL_law_1457 rfl ?_
  refine e_iconst (nI 1) dL_law_1458 (by decide) ?_
  refine e_iaddN dL_law_1459 ?_
  refine e_ildX (i + 1) (xs (i + 1)) dL_law_1460 hS1 (by decide) rfl (by omega) (by omega) rfl ?_
  refine e_aload_n dL_law_1461 rfl ?_
  refine e_iload_n dL_law_1462 rfl ?_
  refine e_iconst (nI 2) dL_law_1463 (by decide) ?_
  refine e_iaddN dL_law_1464 ?_
  refine e_ildX (i + 2) (xs (i + 2)) dL_law_1465 hS1 (by decide) rfl (by omega) (by omega) rfl ?_
  refine e_aload_n dL_law_1466 rfl ?_
  refine e_iload_n dL_law_1467 rfl ?_
  refine e_iconst (nI 3) dL_law_1468 (by decide) ?_
  refine e_iaddN dL_law_1469 ?_
  refine e_ildX (i + 3) (xs (i + 3)) dL_law_1470 hS1 (by decide) rfl (by omega) (by omega) rfl ?_
  refine c_V3i (nc := 4 * n) (ns := 108 * n) (mc := 0) (ms := 0) (N := mX12_sheet) dL_law_1471 lv_L_168 mo_X12_sheet hR1.cn (Nat.le_of_ble_eq_true rfl) (Nat.le_of_ble_eq_true rfl) (by decide) (rp_sheet D hI hR1 (xs (i + 1)) (xs (i + 2)) (xs (i + 3))) (fun h2 hP => ?_)
  obtain ⟨hR2, hF2⟩ := hP
  have hC2 := hC1.fr hR2 hF2
  refine e_icmp_eq 1703 dL_law_1474 (by decide) (fun hc => ?_) (fun hc => absurd rfl hc)
  exact kk h2 _ ((hF2.2 0 (Or.inl (by decide))).trans hS1) hC2 hR2 (i_sheet hI (xs (i + 1)) (xs (i + 2)) (xs (i + 3)))
set_option maxRecDepth 20000 in
theorem lc_37 (D : En) {post : Option Value → AH → Prop} {L : Nat} {xs : Nat → Int32} {n i : Nat} (hi : i + 6 ≤ L) (hL : L ≤ 384) {h : AH} {s : SS} (hS : h[0]? = some (.inl (6, L, .inl xs))) (hC : ClsS h s) (hR : RefS h s) (hI : INV s) (kk : ∀ h' s', h'[0]? = some (.inl (6, L, .inl xs)) → ClsS h' s' → RefS h' s' → INV s' → Ev D 50 mL_law 1703 [some (.ref 0), some (.ref 11), some (.ref 82), some (.int (nI i))] [] h' (4 * n) (108 * n) post) : Ev D 50 mL_law 1479 [some (.ref 0), some (.ref 11), some (.ref 82), some (.int (nI i))] [] h (4 * n + 4) (108 * n + 108) post := by
  refine e_aload_n dL_law_1479 rfl ?_
  refine e_aload_n dL_law_1480 rfl ?_
  refine e_iload_n dL_law_1481 rfl ?_
  refine e_iconst (nI 1) dL_law_1482 (by decide) ?_
  refine e_iaddN dL_law_1483 ?_
  refine e_ildX (i + 1) (xs (i + 1)) dL_law_1484 hS (by decide) rfl (by omega) (by omega) rfl ?_
  refine e_aload_n dL_law_1485 rfl ?_
  refine e_iload_n dL_law_1486 rfl ?_
  refine e_iconst (nI 2) dL_law_1487 (by decide) ?_
  refine e_iaddN dL_law_1488 ?_
  refine e_ildX (i + 2) (xs (i + 2)) dL_law_1489 hS (by decide) rfl (by omega) (by omega) rfl ?_
  refine e_aload_n dL_law_1490 rfl ?_
  refine e_iload_n dL_law_1491 rfl ?_
  refine e_iconst (nI 3) dL_law_1492 (by decide) ?_
  refine e_iaddN dL_law_1493 ?_
  refine e_ildX (i + 3) (xs (i + 3)) dL_law_1494 hS (by decide) rfl (by omega) (by omega) rfl ?_
  refine c_V3i (nc := 4 * n) (ns := 108 * n) (mc := 4) (ms := 108) (N := mX11_put) dL_law_1495 lv_L_169 mo_X11_put hC.cn (Nat.le_of_ble_eq_true rfl) (Nat.le_of_ble_eq_true rfl) (by decide) ((cp_put D hI hC (xs (i + 1)) (xs (i + 2)) (xs (i + 3))).more (by decide) (by decide)) (fun h1 hP => ?_)
  obtain ⟨hC1, hF1⟩ := hP
  have hS1 := (hF1.2 0 (Or.inl (by decide))).trans hS
  have hR1 := hR.fr hF1
  refine e_aload_n dL_law_1498 rfl ?_
  refine e_aload_n dL_law_1499 rfl ?_
  refine e_iload_n dL_law_1500 rfl ?_
  refine e_iconst (nI 1) dL_law_1501 (by decide) ?_
  refine e_iaddN dL_law_1502 ?_
  refine e_ildX (i + 1) (xs (i + 1)) dL_law_1503 hS1 (by decide) rfl (by omega) (by omega) rfl ?_
  refine e_aload_n dL_law_1504 rfl ?_
  refine e_iload_n dL_law_1505 rfl ?_
  refine e_iconst (nI 2) dL_law_1506 (by decide) ?_
  refine e_iaddN dL_law_1507 ?_
  refine e_ildX (i + 2) (xs (i + 2)) dL_law_1508 hS1 (by decide) rfl (by omega) (by omega) rfl ?_
  refine e_aload_n dL_law_1509 rfl ?_
  refine e_iload_n dL_law_1510 rfl ?_
  refine e_iconst (nI 3) dL_law_1511 (by decide) ?_
  refine e_iaddN dL_law_1512 ?_
  refine e_ildX (i + 3) (xs (i + 3)) dL_law_1513 hS1 (by decide) rfl (by omega) (by omega) rfl ?_
  refine c_V3i (nc := 4 * n) (ns := 108 * n) (mc := 0) (ms := 0) (N := mX12_put_) dL_law_1514 lv_L_172 mo_X12_put_ hR1.cn (Nat.le_of_ble_eq_true rfl) (Nat.le_of_ble_eq_true rfl) (by decide) (rp_put D hI hR1 (xs (i + 1)) (xs (i + 2)) (xs (i + 3))) (fun h2 hP => ?_)
  obtain ⟨hR2, hF2⟩ := hP
  have hC2 := hC1.fr hR2 hF2
  refine e_icmp_eq 1703 dL_law_1517 (by decide) (fun hc => ?_) (fun hc => absurd rfl hc)
  exact kk h2 _ ((hF2.2 0 (Or.inl (by decide))).trans hS1) hC2 hR2 (i_put hI (xs (i + 1)) (xs (i + 2)) (xs (i + 3)))
set_option maxRecDepth 20000 in
theorem lc_38 (D : En) {post : Option Value → AH → Prop} {L : Nat} {xs : Nat → Int32} {n i : Nat} (hi : i + 6 ≤ L) (hL : L ≤ 384) {h : AH} {s : SS} (hS : h[0]? = some (.inl (6, L, .inl xs))) (hC : ClsS h s) (hR : RefS h s) (hI : INV s) (kk : ∀ h' s', h'[0]? = some (.inl (6, L, .inl xs)) → ClsS h' s' → RefS h' s' → INV s' → Ev D 50 mL_law 1703 [some (.ref 0), some (.ref 11), some (.ref 82), some (.int (nI i))] [] h' (4 * n) (108 * n) post) : Ev D 50 mL_law 1522 [some (.ref 0), some (.ref 11), some (.ref 82), some (.int (nI i))] [] h (4 * n + 4) (108 * n + 108) post := by
  refine e_aload_n dL_law_1522 rfl ?_
  refine e_aload_n dL_law_1523 rfl ?_
  refine e_iload_n dL_law_1524 rfl ?_
  refine e_iconst (nI 1) dL_law_1525 (by decide) ?_
  refine e_iaddN dL_law_1526 ?_
  refine e_ildX (i + 1) (xs (i + 1)) dL_law_1527 hS (by decide) rfl (by omega) (by omega) rfl ?_
  refine e_aload_n dL_law_1528 rfl ?_
  refine e_iload_n dL_law_1529 rfl ?_
  refine e_iconst (nI 2) dL_law_1530 (by decide) ?_
  refine e_iaddN dL_law_1531 ?_
  refine e_ildX (i + 2) (xs (i + 2)) dL_law_1532 hS (by decide) rfl (by omega) (by omega) rfl ?_
  refine e_aload_n dL_law_1533 rfl ?_
  refine e_iload_n dL_law_1534 rfl ?_
  refine e_iconst (nI 3) dL_law_1535 (by decide) ?_
  refine e_iaddN dL_law_1536 ?_
  refine e_ildX (i + 3) (xs (i + 3)) dL_law_1537 hS (by decide) rfl (by omega) (by omega) rfl ?_
  refine e_aload_n dL_law_1538 rfl ?_
  refine e_iload_n dL_law_1539 rfl ?_
  refine e_iconst (nI 4) dL_law_1540 (by decide) ?_
  refine e_iaddN dL_law_1541 ?_
  refine e_ildX (i + 4) (xs (i + 4)) dL_law_1542 hS (by decide) rfl (by omega) (by omega) rfl ?_
  refine e_aload_n dL_law_1543 rfl ?_
  refine e_iload_n dL_law_1544 rfl ?_
  refine e_iconst (nI 5) dL_law_1545 (by decide) ?_
  refine e_iaddN dL_law_1546 ?_
  refine e_ildX (i + 5) (xs (i + 5)) dL_law_1547 hS (by decide) rfl (by omega) (by omega) rfl ?_
  refine c_V5i (nc := 4 * n) (ns := 108 * n) (mc := 4) (ms := 108) (N := mX11_move) dL_law_1548 lv_L_173 mo_X11_move hC.cn (Nat.le_of_ble_eq_true rfl) (Nat.le_of_ble_eq_true rfl) (by decide) ((cp_move D hI hC (xs (i + 1)) (xs (i + 2)) (xs (i + 3)) (xs (i + 4)) (xs (i + 5))).more (by decide) (by decide)) (fun h1 hP => ?_)
  obtain ⟨hC1, hF1⟩ := hP
  have hS1 := (hF1.2 0 (Or.inl (by decide))).trans hS
  have hR1 := hR.fr hF1
  refine e_aload_n dL_law_1551 rfl ?_
  refine e_aload_n dL_law_1552 rfl ?_
  refine e_iload_n dL_law_1553 rfl ?_
  refine e_iconst (nI 1) dL_law_1554 (by decide) ?_
  refine e_iaddN dL_law_1555 ?_
  refine e_ildX (i + 1) (xs (i + 1)) dL_law_1556 hS1 (by decide) rfl (by omega) (by omega) rfl ?_
  refine e_aload_n dL_law_1557 rfl ?_
  refine e_iload_n dL_law_1558 rfl ?_
  refine e_iconst (nI 2) dL_law_1559 (by decide) ?_
  refine e_iaddN dL_law_1560 ?_
  refine e_ildX (i + 2) (xs (i + 2)) dL_law_1561 hS1 (by decide) rfl (by omega) (by omega) rfl ?_
  refine e_aload_n dL_law_1562 rfl ?_
  refine e_iload_n dL_law_1563 rfl ?_
  refine e_iconst (nI 3) dL_law_1564 (by decide) ?_
  refine e_iaddN dL_law_1565 ?_
  refine e_ildX (i + 3) (xs (i + 3)) dL_law_1566 hS1 (by decide) rfl (by omega) (by omega) rfl ?_
  refine e_aload_n dL_law_1567 rfl ?_
  refine e_iload_n dL_law_1568 rfl ?_
  refine e_iconst (nI 4) dL_law_1569 (by decide) ?_
  refine e_iaddN dL_law_1570 ?_
  refine e_ildX (i + 4) (xs (i + 4)) dL_law_1571 hS1 (by decide) rfl (by omega) (by omega) rfl ?_
  refine e_aload_n dL_law_1572 rfl ?_
  refine e_iload_n dL_law_1573 rfl ?_
  refine e_iconst (nI 5) dL_law_1574 (by decide) ?_
  refine e_iaddN dL_law_1575 ?_
  refine e_ildX (i + 5) (xs (i + 5)) dL_law_1576 hS1 (by decide) rfl (by omega) (by omega) rfl ?_
  refine c_V5i (nc := 4 * n) (ns := 108 * n) (mc := 0) (ms := 0) (N := mX12_move) dL_law_1577 lv_L_177 mo_X12_move hR1.cn (Nat.le_of_ble_eq_true rfl) (Nat.le_of_ble_eq_true rfl) (by decide) (rp_move D hI hR1 (xs (i + 1)) (xs (i + 2)) (xs (i + 3)) (xs (i + 4)) (xs (i + 5))) (fun h2 hP => ?_)
  obtain ⟨hR2, hF2⟩ := hP
  have hC2 := hC1.fr hR2 hF2
  refine e_icmp_eq 1703 dL_law_1580 (by decide) (fun hc => ?_) (fun hc => absurd rfl hc)
  exact kk h2 _ ((hF2.2 0 (Or.inl (by decide))).trans hS1) hC2 hR2 (i_move hI (xs (i + 1)) (xs (i + 2)) (xs (i + 3)) (xs (i + 4)) (xs (i + 5)))
set_option maxRecDepth 20000 in
theorem lc_39 (D : En) {post : Option Value → AH → Prop} {L : Nat} {xs : Nat → Int32} {n i : Nat} (hi : i + 6 ≤ L) (hL : L ≤ 384) {h : AH} {s : SS} (hS : h[0]? = some (.inl (6, L, .inl xs))) (hC : ClsS h s) (hR : RefS h s) (hI : INV s) (kk : ∀ h' s', h'[0]? = some (.inl (6, L, .inl xs)) → ClsS h' s' → RefS h' s' → INV s' → Ev D 50 mL_law 1703 [some (.ref 0), some (.ref 11), some (.ref 82), some (.int (nI i))] [] h' (4 * n) (108 * n) post) : Ev D 50 mL_law 1585 [some (.ref 0), some (.ref 11), some (.ref 82), some (.int (nI i))] [] h (4 * n + 4) (108 * n + 108) post := by
  refine e_aload_n dL_law_1585 rfl ?_
  refine c_V0i (nc := 4 * n) (ns := 108 * n) (mc := 4) (ms := 108) (N := mX11_image) dL_law_1586 lv_L_178 mo_X11_image hC.cn (Nat.le_of_ble_eq_true rfl) (Nat.le_of_ble_eq_true rfl) (by decide) ((cp_image D hI hC ).more (by decide) (by decide)) (fun h1 hP => ?_)
  obtain ⟨hC1, hF1⟩ := hP
  have hS1 := (hF1.2 0 (Or.inl (by decide))).trans hS
  have hR1 := hR.fr hF1
  refine e_aload_n dL_law_1589 rfl ?_
  refine c_V0i (nc := 4 * n) (ns := 108 * n) (mc := 0) (ms := 0) (N := mX12_image) dL_law_1590 lv_L_181 mo_X12_image hR1.cn (Nat.le_of_ble_eq_true rfl) (Nat.le_of_ble_eq_true rfl) (by decide) (rp_image D hI hR1 ) (fun h2 hP => ?_)
  obtain ⟨hR2, hF2⟩ := hP
  have hC2 := hC1.fr hR2 hF2
  refine e_icmp_eq 1703 dL_law_1593 (by decide) (fun hc => ?_) (fun hc => absurd rfl hc)
  exact kk h2 _ ((hF2.2 0 (Or.inl (by decide))).trans hS1) hC2 hR2 (i_image hI )
set_option maxRecDepth 20000 in
theorem lc_40 (D : En) {post : Option Value → AH → Prop} {L : Nat} {xs : Nat → Int32} {n i : Nat} (hi : i + 6 ≤ L) (hL : L ≤ 384) {h : AH} {s : SS} (hS : h[0]? = some (.inl (6, L, .inl xs))) (hC : ClsS h s) (hR : RefS h s) (hI : INV s) (kk : ∀ h' s', h'[0]? = some (.inl (6, L, .inl xs)) → ClsS h' s' → RefS h' s' → INV s' → Ev D 50 mL_law 1703 [some (.ref 0), some (.ref 11), some (.ref 82), some (.int (nI i))] [] h' (4 * n) (108 * n) post) : Ev D 50 mL_law 1598 [some (.ref 0), some (.ref 11), some (.ref 82), some (.int (nI i))] [] h (4 * n + 4) (108 * n + 108) post := by
  refine e_aload_n dL_law_1598 rfl ?_
  refine c_V0i (nc := 4 * n) (ns := 108 * n) (mc := 4) (ms := 108) (N := mX11_restore) dL_law_1599 lv_L_182 mo_X11_restore hC.cn (Nat.le_of_ble_eq_true rfl) (Nat.le_of_ble_eq_true rfl) (by decide) ((cp_restore D hI hC ).more (by decide) (by decide)) (fun h1 hP => ?_)
  obtain ⟨hC1, hF1⟩ := hP
  have hS1 := (hF1.2 0 (Or.inl (by decide))).trans hS
  have hR1 := hR.fr hF1
  refine e_aload_n dL_law_1602 rfl ?_
  refine c_V0i (nc := 4 * n) (ns := 108 * n) (mc := 0) (ms := 0) (N := mX12_restore) dL_law_1603 lv_L_185 mo_X12_restore hR1.cn (Nat.le_of_ble_eq_true rfl) (Nat.le_of_ble_eq_true rfl) (by decide) (rp_restore D hI hR1 ) (fun h2 hP => ?_)
  obtain ⟨hR2, hF2⟩ := hP
  have hC2 := hC1.fr hR2 hF2
  refine e_icmp_eq 1703 dL_law_1606 (by decide) (fun hc => ?_) (fun hc => absurd rfl hc)
  exact kk h2 _ ((hF2.2 0 (Or.inl (by decide))).trans hS1) hC2 hR2 (i_restore hI )
set_option maxRecDepth 20000 in
theorem lc_41 (D : En) {post : Option Value → AH → Prop} {L : Nat} {xs : Nat → Int32} {n i : Nat} (hi : i + 6 ≤ L) (hL : L ≤ 384) {h : AH} {s : SS} (hS : h[0]? = some (.inl (6, L, .inl xs))) (hC : ClsS h s) (hR : RefS h s) (hI : INV s) (kk : ∀ h' s', h'[0]? = some (.inl (6, L, .inl xs)) → ClsS h' s' → RefS h' s' → INV s' → Ev D 50 mL_law 1703 [some (.ref 0), some (.ref 11), some (.ref 82), some (.int (nI i))] [] h' (4 * n) (108 * n) post) : Ev D 50 mL_law 1611 [some (.ref 0), some (.ref 11), some (.ref 82), some (.int (nI i))] [] h (4 * n + 4) (108 * n + 108) post := by
  refine e_aload_n dL_law_1611 rfl ?_
  refine e_aload_n dL_law_1612 rfl ?_
  refine e_iload_n dL_law_1613 rfl ?_
  refine e_iconst (nI 1) dL_law_1614 (by decide) ?_
  refine e_iaddN dL_law_1615 ?_
  refine e_ildX (i + 1) (xs (i + 1)) dL_law_1616 hS (by decide) rfl (by omega) (by omega) rfl ?_
  refine c_V1i (nc := 4 * n) (ns := 108 * n) (mc := 4) (ms := 108) (N := mX11_tell) dL_law_1617 lv_L_186 mo_X11_tell hC.cn (Nat.le_of_ble_eq_true rfl) (Nat.le_of_ble_eq_true rfl) (by decide) ((cp_tell D hI hC (xs (i + 1))).more (by decide) (by decide)) (fun h1 hP => ?_)
  obtain ⟨hC1, hF1⟩ := hP
  have hS1 := (hF1.2 0 (Or.inl (by decide))).trans hS
  have hR1 := hR.fr hF1
  refine e_aload_n dL_law_1620 rfl ?_
  refine e_aload_n dL_law_1621 rfl ?_
  refine e_iload_n dL_law_1622 rfl ?_
  refine e_iconst (nI 1) dL_law_1623 (by decide) ?_
  refine e_iaddN dL_law_1624 ?_
  refine e_ildX (i + 1) (xs (i + 1)) dL_law_1625 hS1 (by decide) rfl (by omega) (by omega) rfl ?_
  refine c_V1i (nc := 4 * n) (ns := 108 * n) (mc := 0) (ms := 0) (N := mX12_tell) dL_law_1626 lv_L_189 mo_X12_tell hR1.cn (Nat.le_of_ble_eq_true rfl) (Nat.le_of_ble_eq_true rfl) (by decide) (rp_tell D hI hR1 (xs (i + 1))) (fun h2 hP => ?_)
  obtain ⟨hR2, hF2⟩ := hP
  have hC2 := hC1.fr hR2 hF2
  refine e_icmp_eq 1703 dL_law_1629 (by decide) (fun hc => ?_) (fun hc => absurd rfl hc)
  exact kk h2 _ ((hF2.2 0 (Or.inl (by decide))).trans hS1) hC2 hR2 (i_tell hI (xs (i + 1)))
set_option maxRecDepth 20000 in
theorem lc_42 (D : En) {post : Option Value → AH → Prop} {L : Nat} {xs : Nat → Int32} {n i : Nat} (hi : i + 6 ≤ L) (hL : L ≤ 384) {h : AH} {s : SS} (hS : h[0]? = some (.inl (6, L, .inl xs))) (hC : ClsS h s) (hR : RefS h s) (hI : INV s) (kk : ∀ h' s', h'[0]? = some (.inl (6, L, .inl xs)) → ClsS h' s' → RefS h' s' → INV s' → Ev D 50 mL_law 1703 [some (.ref 0), some (.ref 11), some (.ref 82), some (.int (nI i))] [] h' (4 * n) (108 * n) post) : Ev D 50 mL_law 1634 [some (.ref 0), some (.ref 11), some (.ref 82), some (.int (nI i))] [] h (4 * n + 4) (108 * n + 108) post := by
  refine e_aload_n dL_law_1634 rfl ?_
  refine e_aload_n dL_law_1635 rfl ?_
  refine e_iload_n dL_law_1636 rfl ?_
  refine e_iconst (nI 1) dL_law_1637 (by decide) ?_
  refine e_iaddN dL_law_1638 ?_
  refine e_ildX (i + 1) (xs (i + 1)) dL_law_1639 hS (by decide) rfl (by omega) (by omega) rfl ?_
  refine c_V1i (nc := 4 * n) (ns := 108 * n) (mc := 4) (ms := 108) (N := mX11_check) dL_law_1640 lv_L_190 mo_X11_check hC.cn (Nat.le_of_ble_eq_true rfl) (Nat.le_of_ble_eq_true rfl) (by decide) ((cp_check D hI hC (xs (i + 1))).more (by decide) (by decide)) (fun h1 hP => ?_)
  obtain ⟨hC1, hF1⟩ := hP
  have hS1 := (hF1.2 0 (Or.inl (by decide))).trans hS
  have hR1 := hR.fr hF1
  refine e_aload_n dL_law_1643 rfl ?_
  refine e_aload_n dL_law_1644 rfl ?_
  refine e_iload_n dL_law_1645 rfl ?_
  refine e_iconst (nI 1) dL_law_1646 (by decide) ?_
  refine e_iaddN dL_law_1647 ?_
  refine e_ildX (i + 1) (xs (i + 1)) dL_law_1648 hS1 (by decide) rfl (by omega) (by omega) rfl ?_
  refine c_V1i (nc := 4 * n) (ns := 108 * n) (mc := 0) (ms := 0) (N := mX12_check) dL_law_1649 lv_L_193 mo_X12_check hR1.cn (Nat.le_of_ble_eq_true rfl) (Nat.le_of_ble_eq_true rfl) (by decide) (rp_check D hI hR1 (xs (i + 1))) (fun h2 hP => ?_)
  obtain ⟨hR2, hF2⟩ := hP
  have hC2 := hC1.fr hR2 hF2
  refine e_icmp_eq 1703 dL_law_1652 (by decide) (fun hc => ?_) (fun hc => absurd rfl hc)
  exact kk h2 _ ((hF2.2 0 (Or.inl (by decide))).trans hS1) hC2 hR2 (i_check hI (xs (i + 1)))
set_option maxRecDepth 20000 in
theorem lc_43 (D : En) {post : Option Value → AH → Prop} {L : Nat} {xs : Nat → Int32} {n i : Nat} (hi : i + 6 ≤ L) (hL : L ≤ 384) {h : AH} {s : SS} (hS : h[0]? = some (.inl (6, L, .inl xs))) (hC : ClsS h s) (hR : RefS h s) (hI : INV s) (kk : ∀ h' s', h'[0]? = some (.inl (6, L, .inl xs)) → ClsS h' s' → RefS h' s' → INV s' → Ev D 50 mL_law 1703 [some (.ref 0), some (.ref 11), some (.ref 82), some (.int (nI i))] [] h' (4 * n) (108 * n) post) : Ev D 50 mL_law 1657 [some (.ref 0), some (.ref 11), some (.ref 82), some (.int (nI i))] [] h (4 * n + 4) (108 * n + 108) post := by
  refine e_aload_n dL_law_1657 rfl ?_
  refine e_aload_n dL_law_1658 rfl ?_
  refine e_iload_n dL_law_1659 rfl ?_
  refine e_iconst (nI 1) dL_law_1660 (by decide) ?_
  refine e_iaddN dL_law_1661 ?_
  refine e_ildX (i + 1) (xs (i + 1)) dL_law_1662 hS (by decide) rfl (by omega) (by omega) rfl ?_
  refine c_V1i (nc := 4 * n) (ns := 108 * n) (mc := 4) (ms := 108) (N := mX11_count) dL_law_1663 lv_L_194 mo_X11_count hC.cn (Nat.le_of_ble_eq_true rfl) (Nat.le_of_ble_eq_true rfl) (by decide) ((cp_count D hI hC (xs (i + 1))).more (by decide) (by decide)) (fun h1 hP => ?_)
  obtain ⟨hC1, hF1⟩ := hP
  have hS1 := (hF1.2 0 (Or.inl (by decide))).trans hS
  have hR1 := hR.fr hF1
  refine e_aload_n dL_law_1666 rfl ?_
  refine e_aload_n dL_law_1667 rfl ?_
  refine e_iload_n dL_law_1668 rfl ?_
  refine e_iconst (nI 1) dL_law_1669 (by decide) ?_
  refine e_iaddN dL_law_1670 ?_
  refine e_ildX (i + 1) (xs (i + 1)) dL_law_1671 hS1 (by decide) rfl (by omega) (by omega) rfl ?_
  refine c_V1i (nc := 4 * n) (ns := 108 * n) (mc := 0) (ms := 0) (N := mX12_count) dL_law_1672 lv_L_197 mo_X12_count hR1.cn (Nat.le_of_ble_eq_true rfl) (Nat.le_of_ble_eq_true rfl) (by decide) (rp_count D hI hR1 (xs (i + 1))) (fun h2 hP => ?_)
  obtain ⟨hR2, hF2⟩ := hP
  have hC2 := hC1.fr hR2 hF2
  refine e_icmp_eq 1703 dL_law_1675 (by decide) (fun hc => ?_) (fun hc => absurd rfl hc)
  exact kk h2 _ ((hF2.2 0 (Or.inl (by decide))).trans hS1) hC2 hR2 (i_count hI (xs (i + 1)))
set_option maxRecDepth 20000 in
theorem lc_44 (D : En) {post : Option Value → AH → Prop} {L : Nat} {xs : Nat → Int32} {n i : Nat} (hi : i + 6 ≤ L) (hL : L ≤ 384) {h : AH} {s : SS} (hS : h[0]? = some (.inl (6, L, .inl xs))) (hC : ClsS h s) (hR : RefS h s) (hI : INV s) (kk : ∀ h' s', h'[0]? = some (.inl (6, L, .inl xs)) → ClsS h' s' → RefS h' s' → INV s' → Ev D 50 mL_law 1703 [some (.ref 0), some (.ref 11), some (.ref 82), some (.int (nI i))] [] h' (4 * n) (108 * n) post) : Ev D 50 mL_law 1680 [some (.ref 0), some (.ref 11), some (.ref 82), some (.int (nI i))] [] h (4 * n + 4) (108 * n + 108) post := by
  refine e_aload_n dL_law_1680 rfl ?_
  refine e_aload_n dL_law_1681 rfl ?_
  refine e_iload_n dL_law_1682 rfl ?_
  refine e_iconst (nI 1) dL_law_1683 (by decide) ?_
  refine e_iaddN dL_law_1684 ?_
  refine e_ildX (i + 1) (xs (i + 1)) dL_law_1685 hS (by decide) rfl (by omega) (by omega) rfl ?_
  refine c_V1i (nc := 4 * n) (ns := 108 * n) (mc := 4) (ms := 108) (N := mX11_told) dL_law_1686 lv_L_198 mo_X11_told hC.cn (Nat.le_of_ble_eq_true rfl) (Nat.le_of_ble_eq_true rfl) (by decide) ((cp_told D hI hC (xs (i + 1))).more (by decide) (by decide)) (fun h1 hP => ?_)
  obtain ⟨hC1, hF1⟩ := hP
  have hS1 := (hF1.2 0 (Or.inl (by decide))).trans hS
  have hR1 := hR.fr hF1
  refine e_aload_n dL_law_1689 rfl ?_
  refine e_aload_n dL_law_1690 rfl ?_
  refine e_iload_n dL_law_1691 rfl ?_
  refine e_iconst (nI 1) dL_law_1692 (by decide) ?_
  refine e_iaddN dL_law_1693 ?_
  refine e_ildX (i + 1) (xs (i + 1)) dL_law_1694 hS1 (by decide) rfl (by omega) (by omega) rfl ?_
  refine c_V1i (nc := 4 * n) (ns := 108 * n) (mc := 0) (ms := 0) (N := mX12_told) dL_law_1695 lv_L_201 mo_X12_told hR1.cn (Nat.le_of_ble_eq_true rfl) (Nat.le_of_ble_eq_true rfl) (by decide) (rp_told D hI hR1 (xs (i + 1))) (fun h2 hP => ?_)
  obtain ⟨hR2, hF2⟩ := hP
  have hC2 := hC1.fr hR2 hF2
  refine e_icmp_eq 1703 dL_law_1698 (by decide) (fun hc => ?_) (fun hc => absurd rfl hc)
  exact kk h2 _ ((hF2.2 0 (Or.inl (by decide))).trans hS1) hC2 hR2 (i_told hI (xs (i + 1)))
