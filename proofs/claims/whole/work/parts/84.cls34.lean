theorem Ev.more {D : En} {d : Nat} {M : Mt} {pc : Nat} {ls : List (Option Value)} {st : List Value} {h : AH} {nc ns nc' ns' : Nat} {post : Option Value → AH → Prop} (hE : Ev D d M pc ls st h nc ns post) (h1 : nc ≤ nc') (h2 : ns ≤ ns') : Ev D d M pc ls st h nc' ns' post := by
  intro p e R s m args below meth c H locs cells slots mcT msT lsA F hH hS hL a1 a2 a3 a4
  exact hE p e R s m args below meth c H locs cells slots mcT msT lsA F hH hS hL (by omega) (by omega) a3 a4
theorem Sp.more {D : En} {d : Nat} {N : Mt} {args : List Value} {h : AH} {mc ms mc' ms' : Nat} {v : Option Value} {P : AH → Prop} (hs : Sp D d N args h mc ms v P) (h1 : mc ≤ mc') (h2 : ms ≤ ms') : Sp D d N args h mc' ms' v P := fun post hp => (hs post hp).more h1 h2
set_option maxRecDepth 20000 in
theorem in_X9_9 (D : En) {h : AH} {b : Nat} {fs : List Value} (hb : h[b]? = some (.inr (9, fs))) (hl : fs.length = 5) (a1 a2 a3 a4 a5 : Int32) : Sp D 1 mX9_init [.ref b, .int a1, .int a2, .int a3, .int a4, .int a5] h 0 0 none (fun h' => h' = h.set b (.inr (9, [.int a1, .int a2, .int a3, .int a4, .int a5]))) := by
  intro post hp
  show Ev D 1 mX9_init 0 [some (.ref b), some (.int a1), some (.int a2), some (.int a3), some (.int a4), some (.int a5)] [] h 0 0 post
  obtain ⟨f1, f2, f3, f4, f5, rfl⟩ : ∃ x1 x2 x3 x4 x5, fs = [x1, x2, x3, x4, x5] := by
    match fs, hl with
    | [x1, x2, x3, x4, x5], _ => exact ⟨x1, x2, x3, x4, x5, rfl⟩
  refine e_aload_n dX9_init_0 rfl ?_
  refine e_objInit dX9_init_1 oi_X9_3 (by decide) (Nat.le_of_ble_eq_true rfl) ?_
  refine e_aload_n dX9_init_4 rfl ?_
  refine e_iload_n dX9_init_5 rfl ?_
  refine e_put dX9_init_6 fl_X9_9_9 ft_9 (fun q hq => Or.inr (by cases hq; exact ⟨rfl, rfl, rfl⟩)) hb (by show _ < 5; decide) rfl rfl ?_
  refine e_aload_n dX9_init_9 rfl ?_
  refine e_iload_n dX9_init_10 rfl ?_
  refine e_put dX9_init_11 fl_X9_15_9 ft_9 (fun q hq => Or.inr (by cases hq; exact ⟨rfl, rfl, rfl⟩)) (getself hb) (by show _ < 5; decide) rfl rfl ?_
  refine e_aload_n dX9_init_14 rfl ?_
  refine e_iload_n dX9_init_15 rfl ?_
  refine e_put dX9_init_16 fl_X9_18_9 ft_9 (fun q hq => Or.inr (by cases hq; exact ⟨rfl, rfl, rfl⟩)) (getself (getself hb)) (by show _ < 5; decide) rfl rfl ?_
  refine e_aload_n dX9_init_19 rfl ?_
  refine e_iload dX9_init_20 rfl ?_
  refine e_put dX9_init_22 fl_X9_21_9 ft_9 (fun q hq => Or.inr (by cases hq; exact ⟨rfl, rfl, rfl⟩)) (getself (getself (getself hb))) (by show _ < 5; decide) rfl rfl ?_
  refine e_aload_n dX9_init_25 rfl ?_
  refine e_iload dX9_init_26 rfl ?_
  refine e_put dX9_init_28 fl_X9_24_9 ft_9 (fun q hq => Or.inr (by cases hq; exact ⟨rfl, rfl, rfl⟩)) (getself (getself (getself (getself hb)))) (by show _ < 5; decide) rfl rfl ?_
  refine e_vret dX9_init_31 rfl (hp _ ?_)
  rw [set_set, set_set, set_set, set_set]
  rfl
set_option maxRecDepth 20000 in
theorem in_X9_7 (D : En) {h : AH} {b : Nat} {fs : List Value} (hb : h[b]? = some (.inr (7, fs))) (hl : fs.length = 5) (a1 a2 a3 a4 a5 : Int32) : Sp D 1 mX9_init [.ref b, .int a1, .int a2, .int a3, .int a4, .int a5] h 0 0 none (fun h' => h' = h.set b (.inr (7, [.int a1, .int a2, .int a3, .int a4, .int a5]))) := by
  intro post hp
  show Ev D 1 mX9_init 0 [some (.ref b), some (.int a1), some (.int a2), some (.int a3), some (.int a4), some (.int a5)] [] h 0 0 post
  obtain ⟨f1, f2, f3, f4, f5, rfl⟩ : ∃ x1 x2 x3 x4 x5, fs = [x1, x2, x3, x4, x5] := by
    match fs, hl with
    | [x1, x2, x3, x4, x5], _ => exact ⟨x1, x2, x3, x4, x5, rfl⟩
  refine e_aload_n dX9_init_0 rfl ?_
  refine e_objInit dX9_init_1 oi_X9_3 (by decide) (Nat.le_of_ble_eq_true rfl) ?_
  refine e_aload_n dX9_init_4 rfl ?_
  refine e_iload_n dX9_init_5 rfl ?_
  refine e_put dX9_init_6 fl_X9_9_7 ft_7 (fun q hq => Or.inr (by cases hq; exact ⟨rfl, rfl, rfl⟩)) hb (by show _ < 5; decide) rfl rfl ?_
  refine e_aload_n dX9_init_9 rfl ?_
  refine e_iload_n dX9_init_10 rfl ?_
  refine e_put dX9_init_11 fl_X9_15_7 ft_7 (fun q hq => Or.inr (by cases hq; exact ⟨rfl, rfl, rfl⟩)) (getself hb) (by show _ < 5; decide) rfl rfl ?_
  refine e_aload_n dX9_init_14 rfl ?_
  refine e_iload_n dX9_init_15 rfl ?_
  refine e_put dX9_init_16 fl_X9_18_7 ft_7 (fun q hq => Or.inr (by cases hq; exact ⟨rfl, rfl, rfl⟩)) (getself (getself hb)) (by show _ < 5; decide) rfl rfl ?_
  refine e_aload_n dX9_init_19 rfl ?_
  refine e_iload dX9_init_20 rfl ?_
  refine e_put dX9_init_22 fl_X9_21_7 ft_7 (fun q hq => Or.inr (by cases hq; exact ⟨rfl, rfl, rfl⟩)) (getself (getself (getself hb))) (by show _ < 5; decide) rfl rfl ?_
  refine e_aload_n dX9_init_25 rfl ?_
  refine e_iload dX9_init_26 rfl ?_
  refine e_put dX9_init_28 fl_X9_24_7 ft_7 (fun q hq => Or.inr (by cases hq; exact ⟨rfl, rfl, rfl⟩)) (getself (getself (getself (getself hb)))) (by show _ < 5; decide) rfl rfl ?_
  refine e_vret dX9_init_31 rfl (hp _ ?_)
  rw [set_set, set_set, set_set, set_set]
  rfl
set_option maxRecDepth 20000 in
theorem in_X7_7 (D : En) {h : AH} {b : Nat} {fs : List Value} (hb : h[b]? = some (.inr (7, fs))) (hl : fs.length = 5) (a1 a2 a3 a4 a5 : Int32) : Sp D 2 mX7_init [.ref b, .int a1, .int a2, .int a3, .int a4, .int a5] h 0 0 none (fun h' => h' = h.set b (.inr (7, [.int a1, .int a2, .int a3, .int a4, .int a5]))) := by
  intro post hp
  show Ev D 2 mX7_init 0 [some (.ref b), some (.int a1), some (.int a2), some (.int a3), some (.int a4), some (.int a5)] [] h 0 0 post
  refine e_aload_n dX7_init_0 rfl ?_
  refine e_iload_n dX7_init_1 rfl ?_
  refine e_iload_n dX7_init_2 rfl ?_
  refine e_iload_n dX7_init_3 rfl ?_
  refine e_iload dX7_init_4 rfl ?_
  refine e_iload dX7_init_6 rfl ?_
  refine c_I5v (nc := 0) (ns := 0) (mc := 0) (ms := 0) (N := mX9_init) dX7_init_8 li_X7_3 mo_X9_init (Nat.le_of_ble_eq_true rfl) (Nat.le_of_ble_eq_true rfl) (by decide) (in_X9_7 D hb hl a1 a2 a3 a4 a5) (fun h hP => ?_)
  exact e_vret dX7_init_11 rfl (hp _ hP)
set_option maxRecDepth 20000 in
theorem in_X9_8 (D : En) {h : AH} {b : Nat} {fs : List Value} (hb : h[b]? = some (.inr (8, fs))) (hl : fs.length = 5) (a1 a2 a3 a4 a5 : Int32) : Sp D 1 mX9_init [.ref b, .int a1, .int a2, .int a3, .int a4, .int a5] h 0 0 none (fun h' => h' = h.set b (.inr (8, [.int a1, .int a2, .int a3, .int a4, .int a5]))) := by
  intro post hp
  show Ev D 1 mX9_init 0 [some (.ref b), some (.int a1), some (.int a2), some (.int a3), some (.int a4), some (.int a5)] [] h 0 0 post
  obtain ⟨f1, f2, f3, f4, f5, rfl⟩ : ∃ x1 x2 x3 x4 x5, fs = [x1, x2, x3, x4, x5] := by
    match fs, hl with
    | [x1, x2, x3, x4, x5], _ => exact ⟨x1, x2, x3, x4, x5, rfl⟩
  refine e_aload_n dX9_init_0 rfl ?_
  refine e_objInit dX9_init_1 oi_X9_3 (by decide) (Nat.le_of_ble_eq_true rfl) ?_
  refine e_aload_n dX9_init_4 rfl ?_
  refine e_iload_n dX9_init_5 rfl ?_
  refine e_put dX9_init_6 fl_X9_9_8 ft_8 (fun q hq => Or.inr (by cases hq; exact ⟨rfl, rfl, rfl⟩)) hb (by show _ < 5; decide) rfl rfl ?_
  refine e_aload_n dX9_init_9 rfl ?_
  refine e_iload_n dX9_init_10 rfl ?_
  refine e_put dX9_init_11 fl_X9_15_8 ft_8 (fun q hq => Or.inr (by cases hq; exact ⟨rfl, rfl, rfl⟩)) (getself hb) (by show _ < 5; decide) rfl rfl ?_
  refine e_aload_n dX9_init_14 rfl ?_
  refine e_iload_n dX9_init_15 rfl ?_
  refine e_put dX9_init_16 fl_X9_18_8 ft_8 (fun q hq => Or.inr (by cases hq; exact ⟨rfl, rfl, rfl⟩)) (getself (getself hb)) (by show _ < 5; decide) rfl rfl ?_
  refine e_aload_n dX9_init_19 rfl ?_
  refine e_iload dX9_init_20 rfl ?_
  refine e_put dX9_init_22 fl_X9_21_8 ft_8 (fun q hq => Or.inr (by cases hq; exact ⟨rfl, rfl, rfl⟩)) (getself (getself (getself hb))) (by show _ < 5; decide) rfl rfl ?_
  refine e_aload_n dX9_init_25 rfl ?_
  refine e_iload dX9_init_26 rfl ?_
  refine e_put dX9_init_28 fl_X9_24_8 ft_8 (fun q hq => Or.inr (by cases hq; exact ⟨rfl, rfl, rfl⟩)) (getself (getself (getself (getself hb)))) (by show _ < 5; decide) rfl rfl ?_
  refine e_vret dX9_init_31 rfl (hp _ ?_)
  rw [set_set, set_set, set_set, set_set]
  rfl
set_option maxRecDepth 20000 in
theorem in_X8_8 (D : En) {h : AH} {b : Nat} {fs : List Value} (hb : h[b]? = some (.inr (8, fs))) (hl : fs.length = 5) (a1 a2 a3 a4 a5 : Int32) : Sp D 2 mX8_init [.ref b, .int a1, .int a2, .int a3, .int a4, .int a5] h 0 0 none (fun h' => h' = h.set b (.inr (8, [.int a1, .int a2, .int a3, .int a4, .int a5]))) := by
  intro post hp
  show Ev D 2 mX8_init 0 [some (.ref b), some (.int a1), some (.int a2), some (.int a3), some (.int a4), some (.int a5)] [] h 0 0 post
  refine e_aload_n dX8_init_0 rfl ?_
  refine e_iload_n dX8_init_1 rfl ?_
  refine e_iload_n dX8_init_2 rfl ?_
  refine e_iload_n dX8_init_3 rfl ?_
  refine e_iload dX8_init_4 rfl ?_
  refine e_iload dX8_init_6 rfl ?_
  refine c_I5v (nc := 0) (ns := 0) (mc := 0) (ms := 0) (N := mX9_init) dX8_init_8 li_X8_3 mo_X9_init (Nat.le_of_ble_eq_true rfl) (Nat.le_of_ble_eq_true rfl) (by decide) (in_X9_8 D hb hl a1 a2 a3 a4 a5) (fun h hP => ?_)
  exact e_vret dX8_init_11 rfl (hp _ hP)
set_option maxRecDepth 20000 in
theorem in_X9_3 (D : En) {h : AH} {b : Nat} {fs : List Value} (hb : h[b]? = some (.inr (3, fs))) (hl : fs.length = 5) (a1 a2 a3 a4 a5 : Int32) : Sp D 1 mX9_init [.ref b, .int a1, .int a2, .int a3, .int a4, .int a5] h 0 0 none (fun h' => h' = h.set b (.inr (3, [.int a1, .int a2, .int a3, .int a4, .int a5]))) := by
  intro post hp
  show Ev D 1 mX9_init 0 [some (.ref b), some (.int a1), some (.int a2), some (.int a3), some (.int a4), some (.int a5)] [] h 0 0 post
  obtain ⟨f1, f2, f3, f4, f5, rfl⟩ : ∃ x1 x2 x3 x4 x5, fs = [x1, x2, x3, x4, x5] := by
    match fs, hl with
    | [x1, x2, x3, x4, x5], _ => exact ⟨x1, x2, x3, x4, x5, rfl⟩
  refine e_aload_n dX9_init_0 rfl ?_
  refine e_objInit dX9_init_1 oi_X9_3 (by decide) (Nat.le_of_ble_eq_true rfl) ?_
  refine e_aload_n dX9_init_4 rfl ?_
  refine e_iload_n dX9_init_5 rfl ?_
  refine e_put dX9_init_6 fl_X9_9_3 ft_3 (fun q hq => Or.inr (by cases hq; exact ⟨rfl, rfl, rfl⟩)) hb (by show _ < 5; decide) rfl rfl ?_
  refine e_aload_n dX9_init_9 rfl ?_
  refine e_iload_n dX9_init_10 rfl ?_
  refine e_put dX9_init_11 fl_X9_15_3 ft_3 (fun q hq => Or.inr (by cases hq; exact ⟨rfl, rfl, rfl⟩)) (getself hb) (by show _ < 5; decide) rfl rfl ?_
  refine e_aload_n dX9_init_14 rfl ?_
  refine e_iload_n dX9_init_15 rfl ?_
  refine e_put dX9_init_16 fl_X9_18_3 ft_3 (fun q hq => Or.inr (by cases hq; exact ⟨rfl, rfl, rfl⟩)) (getself (getself hb)) (by show _ < 5; decide) rfl rfl ?_
  refine e_aload_n dX9_init_19 rfl ?_
  refine e_iload dX9_init_20 rfl ?_
  refine e_put dX9_init_22 fl_X9_21_3 ft_3 (fun q hq => Or.inr (by cases hq; exact ⟨rfl, rfl, rfl⟩)) (getself (getself (getself hb))) (by show _ < 5; decide) rfl rfl ?_
  refine e_aload_n dX9_init_25 rfl ?_
  refine e_iload dX9_init_26 rfl ?_
  refine e_put dX9_init_28 fl_X9_24_3 ft_3 (fun q hq => Or.inr (by cases hq; exact ⟨rfl, rfl, rfl⟩)) (getself (getself (getself (getself hb)))) (by show _ < 5; decide) rfl rfl ?_
  refine e_vret dX9_init_31 rfl (hp _ ?_)
  rw [set_set, set_set, set_set, set_set]
  rfl
set_option maxRecDepth 20000 in
theorem in_X8_3 (D : En) {h : AH} {b : Nat} {fs : List Value} (hb : h[b]? = some (.inr (3, fs))) (hl : fs.length = 5) (a1 a2 a3 a4 a5 : Int32) : Sp D 2 mX8_init [.ref b, .int a1, .int a2, .int a3, .int a4, .int a5] h 0 0 none (fun h' => h' = h.set b (.inr (3, [.int a1, .int a2, .int a3, .int a4, .int a5]))) := by
  intro post hp
  show Ev D 2 mX8_init 0 [some (.ref b), some (.int a1), some (.int a2), some (.int a3), some (.int a4), some (.int a5)] [] h 0 0 post
  refine e_aload_n dX8_init_0 rfl ?_
  refine e_iload_n dX8_init_1 rfl ?_
  refine e_iload_n dX8_init_2 rfl ?_
  refine e_iload_n dX8_init_3 rfl ?_
  refine e_iload dX8_init_4 rfl ?_
  refine e_iload dX8_init_6 rfl ?_
  refine c_I5v (nc := 0) (ns := 0) (mc := 0) (ms := 0) (N := mX9_init) dX8_init_8 li_X8_3 mo_X9_init (Nat.le_of_ble_eq_true rfl) (Nat.le_of_ble_eq_true rfl) (by decide) (in_X9_3 D hb hl a1 a2 a3 a4 a5) (fun h hP => ?_)
  exact e_vret dX8_init_11 rfl (hp _ hP)
set_option maxRecDepth 20000 in
theorem in_X3_3 (D : En) {h : AH} {b : Nat} {fs : List Value} (hb : h[b]? = some (.inr (3, fs))) (hl : fs.length = 5) (a1 a2 a3 a4 a5 : Int32) : Sp D 3 mX3_init [.ref b, .int a1, .int a2, .int a3, .int a4, .int a5] h 0 0 none (fun h' => h' = h.set b (.inr (3, [.int a1, .int a2, .int a3, .int a4, .int a5]))) := by
  intro post hp
  show Ev D 3 mX3_init 0 [some (.ref b), some (.int a1), some (.int a2), some (.int a3), some (.int a4), some (.int a5)] [] h 0 0 post
  refine e_aload_n dX3_init_0 rfl ?_
  refine e_iload_n dX3_init_1 rfl ?_
  refine e_iload_n dX3_init_2 rfl ?_
  refine e_iload_n dX3_init_3 rfl ?_
  refine e_iload dX3_init_4 rfl ?_
  refine e_iload dX3_init_6 rfl ?_
  refine c_I5v (nc := 0) (ns := 0) (mc := 0) (ms := 0) (N := mX8_init) dX3_init_8 li_X3_3 mo_X8_init (Nat.le_of_ble_eq_true rfl) (Nat.le_of_ble_eq_true rfl) (by decide) (in_X8_3 D hb hl a1 a2 a3 a4 a5) (fun h hP => ?_)
  exact e_vret dX3_init_11 rfl (hp _ hP)
set_option maxRecDepth 20000 in
theorem in_X9_1 (D : En) {h : AH} {b : Nat} {fs : List Value} (hb : h[b]? = some (.inr (1, fs))) (hl : fs.length = 5) (a1 a2 a3 a4 a5 : Int32) : Sp D 1 mX9_init [.ref b, .int a1, .int a2, .int a3, .int a4, .int a5] h 0 0 none (fun h' => h' = h.set b (.inr (1, [.int a1, .int a2, .int a3, .int a4, .int a5]))) := by
  intro post hp
  show Ev D 1 mX9_init 0 [some (.ref b), some (.int a1), some (.int a2), some (.int a3), some (.int a4), some (.int a5)] [] h 0 0 post
  obtain ⟨f1, f2, f3, f4, f5, rfl⟩ : ∃ x1 x2 x3 x4 x5, fs = [x1, x2, x3, x4, x5] := by
    match fs, hl with
    | [x1, x2, x3, x4, x5], _ => exact ⟨x1, x2, x3, x4, x5, rfl⟩
  refine e_aload_n dX9_init_0 rfl ?_
  refine e_objInit dX9_init_1 oi_X9_3 (by decide) (Nat.le_of_ble_eq_true rfl) ?_
  refine e_aload_n dX9_init_4 rfl ?_
  refine e_iload_n dX9_init_5 rfl ?_
  refine e_put dX9_init_6 fl_X9_9_1 ft_1 (fun q hq => Or.inr (by cases hq; exact ⟨rfl, rfl, rfl⟩)) hb (by show _ < 5; decide) rfl rfl ?_
  refine e_aload_n dX9_init_9 rfl ?_
  refine e_iload_n dX9_init_10 rfl ?_
  refine e_put dX9_init_11 fl_X9_15_1 ft_1 (fun q hq => Or.inr (by cases hq; exact ⟨rfl, rfl, rfl⟩)) (getself hb) (by show _ < 5; decide) rfl rfl ?_
  refine e_aload_n dX9_init_14 rfl ?_
  refine e_iload_n dX9_init_15 rfl ?_
  refine e_put dX9_init_16 fl_X9_18_1 ft_1 (fun q hq => Or.inr (by cases hq; exact ⟨rfl, rfl, rfl⟩)) (getself (getself hb)) (by show _ < 5; decide) rfl rfl ?_
  refine e_aload_n dX9_init_19 rfl ?_
  refine e_iload dX9_init_20 rfl ?_
  refine e_put dX9_init_22 fl_X9_21_1 ft_1 (fun q hq => Or.inr (by cases hq; exact ⟨rfl, rfl, rfl⟩)) (getself (getself (getself hb))) (by show _ < 5; decide) rfl rfl ?_
  refine e_aload_n dX9_init_25 rfl ?_
  refine e_iload dX9_init_26 rfl ?_
  refine e_put dX9_init_28 fl_X9_24_1 ft_1 (fun q hq => Or.inr (by cases hq; exact ⟨rfl, rfl, rfl⟩)) (getself (getself (getself (getself hb)))) (by show _ < 5; decide) rfl rfl ?_
  refine e_vret dX9_init_31 rfl (hp _ ?_)
  rw [set_set, set_set, set_set, set_set]
  rfl
set_option maxRecDepth 20000 in
theorem in_X1_1 (D : En) {h : AH} {b : Nat} {fs : List Value} (hb : h[b]? = some (.inr (1, fs))) (hl : fs.length = 5) (a1 a2 a3 a4 a5 : Int32) : Sp D 2 mX1_init [.ref b, .int a1, .int a2, .int a3, .int a4, .int a5] h 0 0 none (fun h' => h' = h.set b (.inr (1, [.int a1, .int a2, .int a3, .int a4, .int a5]))) := by
  intro post hp
  show Ev D 2 mX1_init 0 [some (.ref b), some (.int a1), some (.int a2), some (.int a3), some (.int a4), some (.int a5)] [] h 0 0 post
  refine e_aload_n dX1_init_0 rfl ?_
  refine e_iload_n dX1_init_1 rfl ?_
  refine e_iload_n dX1_init_2 rfl ?_
  refine e_iload_n dX1_init_3 rfl ?_
  refine e_iload dX1_init_4 rfl ?_
  refine e_iload dX1_init_6 rfl ?_
  refine c_I5v (nc := 0) (ns := 0) (mc := 0) (ms := 0) (N := mX9_init) dX1_init_8 li_X1_3 mo_X9_init (Nat.le_of_ble_eq_true rfl) (Nat.le_of_ble_eq_true rfl) (by decide) (in_X9_1 D hb hl a1 a2 a3 a4 a5) (fun h hP => ?_)
  exact e_vret dX1_init_11 rfl (hp _ hP)
set_option maxRecDepth 20000 in
theorem in_X9_10 (D : En) {h : AH} {b : Nat} {fs : List Value} (hb : h[b]? = some (.inr (10, fs))) (hl : fs.length = 5) (a1 a2 a3 a4 a5 : Int32) : Sp D 1 mX9_init [.ref b, .int a1, .int a2, .int a3, .int a4, .int a5] h 0 0 none (fun h' => h' = h.set b (.inr (10, [.int a1, .int a2, .int a3, .int a4, .int a5]))) := by
  intro post hp
  show Ev D 1 mX9_init 0 [some (.ref b), some (.int a1), some (.int a2), some (.int a3), some (.int a4), some (.int a5)] [] h 0 0 post
  obtain ⟨f1, f2, f3, f4, f5, rfl⟩ : ∃ x1 x2 x3 x4 x5, fs = [x1, x2, x3, x4, x5] := by
    match fs, hl with
    | [x1, x2, x3, x4, x5], _ => exact ⟨x1, x2, x3, x4, x5, rfl⟩
  refine e_aload_n dX9_init_0 rfl ?_
  refine e_objInit dX9_init_1 oi_X9_3 (by decide) (Nat.le_of_ble_eq_true rfl) ?_
  refine e_aload_n dX9_init_4 rfl ?_
  refine e_iload_n dX9_init_5 rfl ?_
  refine e_put dX9_init_6 fl_X9_9_10 ft_10 (fun q hq => Or.inr (by cases hq; exact ⟨rfl, rfl, rfl⟩)) hb (by show _ < 5; decide) rfl rfl ?_
  refine e_aload_n dX9_init_9 rfl ?_
  refine e_iload_n dX9_init_10 rfl ?_
  refine e_put dX9_init_11 fl_X9_15_10 ft_10 (fun q hq => Or.inr (by cases hq; exact ⟨rfl, rfl, rfl⟩)) (getself hb) (by show _ < 5; decide) rfl rfl ?_
  refine e_aload_n dX9_init_14 rfl ?_
  refine e_iload_n dX9_init_15 rfl ?_
  refine e_put dX9_init_16 fl_X9_18_10 ft_10 (fun q hq => Or.inr (by cases hq; exact ⟨rfl, rfl, rfl⟩)) (getself (getself hb)) (by show _ < 5; decide) rfl rfl ?_
  refine e_aload_n dX9_init_19 rfl ?_
  refine e_iload dX9_init_20 rfl ?_
  refine e_put dX9_init_22 fl_X9_21_10 ft_10 (fun q hq => Or.inr (by cases hq; exact ⟨rfl, rfl, rfl⟩)) (getself (getself (getself hb))) (by show _ < 5; decide) rfl rfl ?_
  refine e_aload_n dX9_init_25 rfl ?_
  refine e_iload dX9_init_26 rfl ?_
  refine e_put dX9_init_28 fl_X9_24_10 ft_10 (fun q hq => Or.inr (by cases hq; exact ⟨rfl, rfl, rfl⟩)) (getself (getself (getself (getself hb)))) (by show _ < 5; decide) rfl rfl ?_
  refine e_vret dX9_init_31 rfl (hp _ ?_)
  rw [set_set, set_set, set_set, set_set]
  rfl
set_option maxRecDepth 20000 in
theorem in_X7_10 (D : En) {h : AH} {b : Nat} {fs : List Value} (hb : h[b]? = some (.inr (10, fs))) (hl : fs.length = 5) (a1 a2 a3 a4 a5 : Int32) : Sp D 2 mX7_init [.ref b, .int a1, .int a2, .int a3, .int a4, .int a5] h 0 0 none (fun h' => h' = h.set b (.inr (10, [.int a1, .int a2, .int a3, .int a4, .int a5]))) := by
  intro post hp
  show Ev D 2 mX7_init 0 [some (.ref b), some (.int a1), some (.int a2), some (.int a3), some (.int a4), some (.int a5)] [] h 0 0 post
  refine e_aload_n dX7_init_0 rfl ?_
  refine e_iload_n dX7_init_1 rfl ?_
  refine e_iload_n dX7_init_2 rfl ?_
  refine e_iload_n dX7_init_3 rfl ?_
  refine e_iload dX7_init_4 rfl ?_
  refine e_iload dX7_init_6 rfl ?_
  refine c_I5v (nc := 0) (ns := 0) (mc := 0) (ms := 0) (N := mX9_init) dX7_init_8 li_X7_3 mo_X9_init (Nat.le_of_ble_eq_true rfl) (Nat.le_of_ble_eq_true rfl) (by decide) (in_X9_10 D hb hl a1 a2 a3 a4 a5) (fun h hP => ?_)
  exact e_vret dX7_init_11 rfl (hp _ hP)
set_option maxRecDepth 20000 in
theorem in_X10_10 (D : En) {h : AH} {b : Nat} {fs : List Value} (hb : h[b]? = some (.inr (10, fs))) (hl : fs.length = 5) (a1 a2 a3 a4 a5 : Int32) : Sp D 3 mX10_init [.ref b, .int a1, .int a2, .int a3, .int a4, .int a5] h 0 0 none (fun h' => h' = h.set b (.inr (10, [.int a1, .int a2, .int a3, .int a4, .int a5]))) := by
  intro post hp
  show Ev D 3 mX10_init 0 [some (.ref b), some (.int a1), some (.int a2), some (.int a3), some (.int a4), some (.int a5)] [] h 0 0 post
  refine e_aload_n dX10_init_0 rfl ?_
  refine e_iload_n dX10_init_1 rfl ?_
  refine e_iload_n dX10_init_2 rfl ?_
  refine e_iload_n dX10_init_3 rfl ?_
  refine e_iload dX10_init_4 rfl ?_
  refine e_iload dX10_init_6 rfl ?_
  refine c_I5v (nc := 0) (ns := 0) (mc := 0) (ms := 0) (N := mX7_init) dX10_init_8 li_X10_3 mo_X7_init (Nat.le_of_ble_eq_true rfl) (Nat.le_of_ble_eq_true rfl) (by decide) (in_X7_10 D hb hl a1 a2 a3 a4 a5) (fun h hP => ?_)
  exact e_vret dX10_init_11 rfl (hp _ hP)
set_option maxRecDepth 20000 in
theorem in_X9_0 (D : En) {h : AH} {b : Nat} {fs : List Value} (hb : h[b]? = some (.inr (0, fs))) (hl : fs.length = 5) (a1 a2 a3 a4 a5 : Int32) : Sp D 1 mX9_init [.ref b, .int a1, .int a2, .int a3, .int a4, .int a5] h 0 0 none (fun h' => h' = h.set b (.inr (0, [.int a1, .int a2, .int a3, .int a4, .int a5]))) := by
  intro post hp
  show Ev D 1 mX9_init 0 [some (.ref b), some (.int a1), some (.int a2), some (.int a3), some (.int a4), some (.int a5)] [] h 0 0 post
  obtain ⟨f1, f2, f3, f4, f5, rfl⟩ : ∃ x1 x2 x3 x4 x5, fs = [x1, x2, x3, x4, x5] := by
    match fs, hl with
    | [x1, x2, x3, x4, x5], _ => exact ⟨x1, x2, x3, x4, x5, rfl⟩
  refine e_aload_n dX9_init_0 rfl ?_
  refine e_objInit dX9_init_1 oi_X9_3 (by decide) (Nat.le_of_ble_eq_true rfl) ?_
  refine e_aload_n dX9_init_4 rfl ?_
  refine e_iload_n dX9_init_5 rfl ?_
  refine e_put dX9_init_6 fl_X9_9_0 ft_0 (fun q hq => Or.inr (by cases hq; exact ⟨rfl, rfl, rfl⟩)) hb (by show _ < 5; decide) rfl rfl ?_
  refine e_aload_n dX9_init_9 rfl ?_
  refine e_iload_n dX9_init_10 rfl ?_
  refine e_put dX9_init_11 fl_X9_15_0 ft_0 (fun q hq => Or.inr (by cases hq; exact ⟨rfl, rfl, rfl⟩)) (getself hb) (by show _ < 5; decide) rfl rfl ?_
  refine e_aload_n dX9_init_14 rfl ?_
  refine e_iload_n dX9_init_15 rfl ?_
  refine e_put dX9_init_16 fl_X9_18_0 ft_0 (fun q hq => Or.inr (by cases hq; exact ⟨rfl, rfl, rfl⟩)) (getself (getself hb)) (by show _ < 5; decide) rfl rfl ?_
  refine e_aload_n dX9_init_19 rfl ?_
  refine e_iload dX9_init_20 rfl ?_
  refine e_put dX9_init_22 fl_X9_21_0 ft_0 (fun q hq => Or.inr (by cases hq; exact ⟨rfl, rfl, rfl⟩)) (getself (getself (getself hb))) (by show _ < 5; decide) rfl rfl ?_
  refine e_aload_n dX9_init_25 rfl ?_
  refine e_iload dX9_init_26 rfl ?_
  refine e_put dX9_init_28 fl_X9_24_0 ft_0 (fun q hq => Or.inr (by cases hq; exact ⟨rfl, rfl, rfl⟩)) (getself (getself (getself (getself hb)))) (by show _ < 5; decide) rfl rfl ?_
  refine e_vret dX9_init_31 rfl (hp _ ?_)
  rw [set_set, set_set, set_set, set_set]
  rfl
set_option maxRecDepth 20000 in
theorem in_X1_0 (D : En) {h : AH} {b : Nat} {fs : List Value} (hb : h[b]? = some (.inr (0, fs))) (hl : fs.length = 5) (a1 a2 a3 a4 a5 : Int32) : Sp D 2 mX1_init [.ref b, .int a1, .int a2, .int a3, .int a4, .int a5] h 0 0 none (fun h' => h' = h.set b (.inr (0, [.int a1, .int a2, .int a3, .int a4, .int a5]))) := by
  intro post hp
  show Ev D 2 mX1_init 0 [some (.ref b), some (.int a1), some (.int a2), some (.int a3), some (.int a4), some (.int a5)] [] h 0 0 post
  refine e_aload_n dX1_init_0 rfl ?_
  refine e_iload_n dX1_init_1 rfl ?_
  refine e_iload_n dX1_init_2 rfl ?_
  refine e_iload_n dX1_init_3 rfl ?_
  refine e_iload dX1_init_4 rfl ?_
  refine e_iload dX1_init_6 rfl ?_
  refine c_I5v (nc := 0) (ns := 0) (mc := 0) (ms := 0) (N := mX9_init) dX1_init_8 li_X1_3 mo_X9_init (Nat.le_of_ble_eq_true rfl) (Nat.le_of_ble_eq_true rfl) (by decide) (in_X9_0 D hb hl a1 a2 a3 a4 a5) (fun h hP => ?_)
  exact e_vret dX1_init_11 rfl (hp _ hP)
set_option maxRecDepth 20000 in
theorem in_X0_0 (D : En) {h : AH} {b : Nat} {fs : List Value} (hb : h[b]? = some (.inr (0, fs))) (hl : fs.length = 5) (a1 a2 a3 a4 a5 : Int32) : Sp D 3 mX0_init [.ref b, .int a1, .int a2, .int a3, .int a4, .int a5] h 0 0 none (fun h' => h' = h.set b (.inr (0, [.int a1, .int a2, .int a3, .int a4, .int a5]))) := by
  intro post hp
  show Ev D 3 mX0_init 0 [some (.ref b), some (.int a1), some (.int a2), some (.int a3), some (.int a4), some (.int a5)] [] h 0 0 post
  refine e_aload_n dX0_init_0 rfl ?_
  refine e_iload_n dX0_init_1 rfl ?_
  refine e_iload_n dX0_init_2 rfl ?_
  refine e_iload_n dX0_init_3 rfl ?_
  refine e_iload dX0_init_4 rfl ?_
  refine e_iload dX0_init_6 rfl ?_
  refine c_I5v (nc := 0) (ns := 0) (mc := 0) (ms := 0) (N := mX1_init) dX0_init_8 li_X0_3 mo_X1_init (Nat.le_of_ble_eq_true rfl) (Nat.le_of_ble_eq_true rfl) (by decide) (in_X1_0 D hb hl a1 a2 a3 a4 a5) (fun h hP => ?_)
  exact e_vret dX0_init_11 rfl (hp _ hP)
theorem set_last (h : AH) (x y : AC) : (h ++ [x]).set h.length y = h ++ [y] := by
  rw [List.set_append_right _ _ (Nat.le_refl _), Nat.sub_self]
  rfl
set_option maxRecDepth 20000 in
theorem c_newThing (D : En) {h : AH} (k n v : Nat) (hk : k < 7) (c l r : Int32) : Sp D 4 mX11_newThing [.int (nI k), .int (nI n), .int (nI v), .int c, .int l, .int r] h 1 5 (some (.ref h.length)) (fun h' => h' = h ++ [.inr (ciK k, [.int (nI n), .int (nI v), .int c, .int l, .int r])]) := by
  intro post hp
  show Ev D 4 mX11_newThing 0 [some (.int (nI k)), some (.int (nI n)), some (.int (nI v)), some (.int c), some (.int l), some (.int r)] [] h 1 5 post
  refine e_iload_n dX11_newThing_0 rfl ?_
  rcases (show k = 0 ∨ k = 1 ∨ k = 2 ∨ k = 3 ∨ k = 4 ∨ k = 5 ∨ k = 6 by omega) with rfl | rfl | rfl | rfl | rfl | rfl | rfl
  · refine e_tableOut 130 dX11_newThing_1 (by decide) (by decide) ?_
    refine e_new (M := mX11_newThing) (N := 5) (nc := 0) (ns := 0) dX11_newThing_130 nw_X11_139 ft_9 rfl ?_
    refine e_dup dX11_newThing_133 rfl ?_
    refine e_iload_n dX11_newThing_134 rfl ?_
    refine e_iload_n dX11_newThing_135 rfl ?_
    refine e_iload_n dX11_newThing_136 rfl ?_
    refine e_iload dX11_newThing_137 rfl ?_
    refine e_iload dX11_newThing_139 rfl ?_
    refine c_I5v (nc := 0) (ns := 0) (mc := 0) (ms := 0) (N := mX9_init) dX11_newThing_141 li_X11_357 mo_X9_init (Nat.le_of_ble_eq_true rfl) (Nat.le_of_ble_eq_true rfl) (by decide) (in_X9_9 D (List.getElem?_concat_length) rfl (nI n) (nI v) c l r) (fun h2 hP => ?_)
    refine e_aret dX11_newThing_144 rfl (hp _ ?_)
    rw [hP]
    exact set_last _ _ _
  · refine e_tableIn (off := 39) 40 dX11_newThing_1 (by decide) (by decide) (by decide) (by decide) ?_
    refine e_new (M := mX11_newThing) (N := 5) (nc := 0) (ns := 0) dX11_newThing_40 nw_X11_337 ft_7 rfl ?_
    refine e_dup dX11_newThing_43 rfl ?_
    refine e_iload_n dX11_newThing_44 rfl ?_
    refine e_iload_n dX11_newThing_45 rfl ?_
    refine e_iload_n dX11_newThing_46 rfl ?_
    refine e_iload dX11_newThing_47 rfl ?_
    refine e_iload dX11_newThing_49 rfl ?_
    refine c_I5v (nc := 0) (ns := 0) (mc := 0) (ms := 0) (N := mX7_init) dX11_newThing_51 li_X11_339 mo_X7_init (Nat.le_of_ble_eq_true rfl) (Nat.le_of_ble_eq_true rfl) (by decide) (in_X7_7 D (List.getElem?_concat_length) rfl (nI n) (nI v) c l r) (fun h2 hP => ?_)
    refine e_aret dX11_newThing_54 rfl (hp _ ?_)
    rw [hP]
    exact set_last _ _ _
  · refine e_tableIn (off := 54) 55 dX11_newThing_1 (by decide) (by decide) (by decide) (by decide) ?_
    refine e_new (M := mX11_newThing) (N := 5) (nc := 0) (ns := 0) dX11_newThing_55 nw_X11_342 ft_8 rfl ?_
    refine e_dup dX11_newThing_58 rfl ?_
    refine e_iload_n dX11_newThing_59 rfl ?_
    refine e_iload_n dX11_newThing_60 rfl ?_
    refine e_iload_n dX11_newThing_61 rfl ?_
    refine e_iload dX11_newThing_62 rfl ?_
    refine e_iload dX11_newThing_64 rfl ?_
    refine c_I5v (nc := 0) (ns := 0) (mc := 0) (ms := 0) (N := mX8_init) dX11_newThing_66 li_X11_344 mo_X8_init (Nat.le_of_ble_eq_true rfl) (Nat.le_of_ble_eq_true rfl) (by decide) (in_X8_8 D (List.getElem?_concat_length) rfl (nI n) (nI v) c l r) (fun h2 hP => ?_)
    refine e_aret dX11_newThing_69 rfl (hp _ ?_)
    rw [hP]
    exact set_last _ _ _
  · refine e_tableIn (off := 69) 70 dX11_newThing_1 (by decide) (by decide) (by decide) (by decide) ?_
    refine e_new (M := mX11_newThing) (N := 5) (nc := 0) (ns := 0) dX11_newThing_70 nw_X11_345 ft_3 rfl ?_
    refine e_dup dX11_newThing_73 rfl ?_
    refine e_iload_n dX11_newThing_74 rfl ?_
    refine e_iload_n dX11_newThing_75 rfl ?_
    refine e_iload_n dX11_newThing_76 rfl ?_
    refine e_iload dX11_newThing_77 rfl ?_
    refine e_iload dX11_newThing_79 rfl ?_
    refine c_I5v (nc := 0) (ns := 0) (mc := 0) (ms := 0) (N := mX3_init) dX11_newThing_81 li_X11_347 mo_X3_init (Nat.le_of_ble_eq_true rfl) (Nat.le_of_ble_eq_true rfl) (by decide) (in_X3_3 D (List.getElem?_concat_length) rfl (nI n) (nI v) c l r) (fun h2 hP => ?_)
    refine e_aret dX11_newThing_84 rfl (hp _ ?_)
    rw [hP]
    exact set_last _ _ _
  · refine e_tableIn (off := 84) 85 dX11_newThing_1 (by decide) (by decide) (by decide) (by decide) ?_
    refine e_new (M := mX11_newThing) (N := 5) (nc := 0) (ns := 0) dX11_newThing_85 nw_X11_348 ft_1 rfl ?_
    refine e_dup dX11_newThing_88 rfl ?_
    refine e_iload_n dX11_newThing_89 rfl ?_
    refine e_iload_n dX11_newThing_90 rfl ?_
    refine e_iload_n dX11_newThing_91 rfl ?_
    refine e_iload dX11_newThing_92 rfl ?_
    refine e_iload dX11_newThing_94 rfl ?_
    refine c_I5v (nc := 0) (ns := 0) (mc := 0) (ms := 0) (N := mX1_init) dX11_newThing_96 li_X11_350 mo_X1_init (Nat.le_of_ble_eq_true rfl) (Nat.le_of_ble_eq_true rfl) (by decide) (in_X1_1 D (List.getElem?_concat_length) rfl (nI n) (nI v) c l r) (fun h2 hP => ?_)
    refine e_aret dX11_newThing_99 rfl (hp _ ?_)
    rw [hP]
    exact set_last _ _ _
  · refine e_tableIn (off := 99) 100 dX11_newThing_1 (by decide) (by decide) (by decide) (by decide) ?_
    refine e_new (M := mX11_newThing) (N := 5) (nc := 0) (ns := 0) dX11_newThing_100 nw_X11_351 ft_10 rfl ?_
    refine e_dup dX11_newThing_103 rfl ?_
    refine e_iload_n dX11_newThing_104 rfl ?_
    refine e_iload_n dX11_newThing_105 rfl ?_
    refine e_iload_n dX11_newThing_106 rfl ?_
    refine e_iload dX11_newThing_107 rfl ?_
    refine e_iload dX11_newThing_109 rfl ?_
    refine c_I5v (nc := 0) (ns := 0) (mc := 0) (ms := 0) (N := mX10_init) dX11_newThing_111 li_X11_353 mo_X10_init (Nat.le_of_ble_eq_true rfl) (Nat.le_of_ble_eq_true rfl) (by decide) (in_X10_10 D (List.getElem?_concat_length) rfl (nI n) (nI v) c l r) (fun h2 hP => ?_)
    refine e_aret dX11_newThing_114 rfl (hp _ ?_)
    rw [hP]
    exact set_last _ _ _
  · refine e_tableIn (off := 114) 115 dX11_newThing_1 (by decide) (by decide) (by decide) (by decide) ?_
    refine e_new (M := mX11_newThing) (N := 5) (nc := 0) (ns := 0) dX11_newThing_115 nw_X11_354 ft_0 rfl ?_
    refine e_dup dX11_newThing_118 rfl ?_
    refine e_iload_n dX11_newThing_119 rfl ?_
    refine e_iload_n dX11_newThing_120 rfl ?_
    refine e_iload_n dX11_newThing_121 rfl ?_
    refine e_iload dX11_newThing_122 rfl ?_
    refine e_iload dX11_newThing_124 rfl ?_
    refine c_I5v (nc := 0) (ns := 0) (mc := 0) (ms := 0) (N := mX0_init) dX11_newThing_126 li_X11_356 mo_X0_init (Nat.le_of_ble_eq_true rfl) (Nat.le_of_ble_eq_true rfl) (by decide) (in_X0_0 D (List.getElem?_concat_length) rfl (nI n) (nI v) c l r) (fun h2 hP => ?_)
    refine e_aret dX11_newThing_129 rfl (hp _ ?_)
    rw [hP]
    exact set_last _ _ _
theorem HG.push {h : AH} {c : AC} : HG h (h ++ [c]) := fun x q _ hx => Or.inl (by rw [List.getElem?_append_left (List.getElem?_eq_some_iff.mp hx).1]; exact hx)
theorem get_push {h : AH} {c : AC} {x : Nat} (hx : x < h.length) : (h ++ [c])[x]? = h[x]? := List.getElem?_append_left hx
theorem RB.push {h : AH} {c : AC} (hB : RB h) (hc : ∀ fs, c ≠ .inr (6, fs)) : RB (h ++ [c]) := by
  intro r fs hr
  by_cases e : r < h.length
  · rw [get_push e] at hr
    obtain ⟨q1, ⟨gs, q2⟩, ⟨f, q3⟩, ⟨k, q4⟩⟩ := hB r fs hr
    exact ⟨q1, ⟨gs, (get_push (List.getElem?_eq_some_iff.mp q2).1).trans q2⟩, ⟨f, (get_push (List.getElem?_eq_some_iff.mp q3).1).trans q3⟩, ⟨k, (get_push (List.getElem?_eq_some_iff.mp q4).1).trans q4⟩⟩
  · have hl := (List.getElem?_eq_some_iff.mp hr).1
    rw [List.length_append] at hl
    have e2 : r = h.length := by have : [c].length = 1 := rfl; omega
    rw [e2, List.getElem?_concat_length] at hr
    exact absurd (Option.some.inj hr) (hc fs)
theorem ClsS.push {h : AH} {s : SS} (hC : ClsS h s) {c : AC} (hc : ∀ fs, c ≠ .inr (6, fs)) : ClsS (h ++ [c]) s :=
  hC.mv (fun _ => False) HG.push (hC.rb.push hc) (by rw [List.length_append]; omega) (fun x hx _ => get_push (by have := hC.len; omega)) (fun x _ e => e) (Or.inl ⟨id, rfl⟩) (Or.inl ⟨fun _ _ _ => id, rfl⟩) (Or.inl ⟨fun _ _ _ => id, rfl, rfl⟩) (Or.inl (fun _ _ _ => id)) (Or.inl (fun _ _ _ => id)) id (Or.inl ⟨id, id, rfl⟩) (Or.inl ⟨id, rfl⟩) (Or.inl ⟨fun _ _ _ => id, rfl, rfl, rfl⟩)
theorem FrC.push {h h1 : AH} (f : FrC h h1) {c : AC} (hl : 101 ≤ h1.length) : FrC h (h1 ++ [c]) := ⟨by rw [List.length_append]; have := f.1; omega, fun x hx => (get_push (by omega)).trans (f.2 x hx)⟩
