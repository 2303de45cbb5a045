set_option maxRecDepth 20000 in
theorem g_X9_9 (D : En) {h : AH} {b t : Nat} {N : Nat → Int32} (hb : h[b]? = some (.inr (9, tgF N t))) : Sp D 0 mX9_giving [.ref b] h 0 0 (some (.int (nI 1))) (fun h' => h' = h) := by
  intro post hp
  show Ev D 0 mX9_giving 0 [some (.ref (b))] [] h 0 0 post
  refine e_iconst (nI (1)) dX9_giving_0 (by decide) ?_
  refine e_top (nI 1) (by decide) ?_
  exact e_iret dX9_giving_1 rfl (hp _ rfl)
set_option maxRecDepth 20000 in
theorem g_X7_7 (D : En) {h : AH} {b t : Nat} {N : Nat → Int32} (hb : h[b]? = some (.inr (7, tgF N t))) : Sp D 0 mX7_giving [.ref b] h 0 0 (some (.int (nI 5))) (fun h' => h' = h) := by
  intro post hp
  show Ev D 0 mX7_giving 0 [some (.ref (b))] [] h 0 0 post
  refine e_iconst (nI (5)) dX7_giving_0 (by decide) ?_
  refine e_top (nI 5) (by decide) ?_
  exact e_iret dX7_giving_1 rfl (hp _ rfl)
set_option maxRecDepth 20000 in
theorem g_X8_8 (D : En) {h : AH} {b t : Nat} {N : Nat → Int32} (hb : h[b]? = some (.inr (8, tgF N t))) : Sp D 0 mX8_giving [.ref b] h 0 0 (some (.int (nI 3))) (fun h' => h' = h) := by
  intro post hp
  show Ev D 0 mX8_giving 0 [some (.ref (b))] [] h 0 0 post
  refine e_iconst (nI (3)) dX8_giving_0 (by decide) ?_
  refine e_top (nI 3) (by decide) ?_
  exact e_iret dX8_giving_1 rfl (hp _ rfl)
set_option maxRecDepth 20000 in
theorem g_X8_3 (D : En) {h : AH} {b t : Nat} {N : Nat → Int32} (hb : h[b]? = some (.inr (3, tgF N t))) : Sp D 0 mX8_giving [.ref b] h 0 0 (some (.int (nI 3))) (fun h' => h' = h) := by
  intro post hp
  show Ev D 0 mX8_giving 0 [some (.ref (b))] [] h 0 0 post
  refine e_iconst (nI (3)) dX8_giving_0 (by decide) ?_
  refine e_top (nI 3) (by decide) ?_
  exact e_iret dX8_giving_1 rfl (hp _ rfl)
set_option maxRecDepth 20000 in
theorem g_X3_3 (D : En) {h : AH} {b t : Nat} {N : Nat → Int32} (hb : h[b]? = some (.inr (3, tgF N t))) : Sp D 1 mX3_giving [.ref b] h 0 0 (some (.int (nI 5))) (fun h' => h' = h) := by
  intro post hp
  show Ev D 1 mX3_giving 0 [some (.ref (b))] [] h 0 0 post
  refine e_aload_n dX3_giving_0 rfl ?_
  refine c_U0iR (N := mX8_giving) dX3_giving_1 lu_X3_13 mo_X8_giving hb rfl (Nat.le_of_ble_eq_true rfl) (Nat.le_of_ble_eq_true rfl) (by decide) (g_X8_3 D hb) ?_
  refine e_iconst (nI (2)) dX3_giving_4 (by decide) ?_
  refine e_iaddN dX3_giving_5 ?_
  refine e_top (nI 5) (by decide) ?_
  exact e_iret dX3_giving_6 rfl (hp _ rfl)
set_option maxRecDepth 20000 in
theorem g_X9_1 (D : En) {h : AH} {b t : Nat} {N : Nat → Int32} (hb : h[b]? = some (.inr (1, tgF N t))) : Sp D 0 mX9_giving [.ref b] h 0 0 (some (.int (nI 1))) (fun h' => h' = h) := by
  intro post hp
  show Ev D 0 mX9_giving 0 [some (.ref (b))] [] h 0 0 post
  refine e_iconst (nI (1)) dX9_giving_0 (by decide) ?_
  refine e_top (nI 1) (by decide) ?_
  exact e_iret dX9_giving_1 rfl (hp _ rfl)
set_option maxRecDepth 20000 in
theorem g_X1_1 (D : En) {h : AH} {b t : Nat} {N : Nat → Int32} (hb : h[b]? = some (.inr (1, tgF N t))) : Sp D 1 mX1_giving [.ref b] h 0 0 (some (.int (nI 2))) (fun h' => h' = h) := by
  intro post hp
  show Ev D 1 mX1_giving 0 [some (.ref (b))] [] h 0 0 post
  refine e_iconst (nI (2)) dX1_giving_0 (by decide) ?_
  refine e_aload_n dX1_giving_1 rfl ?_
  refine c_U0iR (N := mX9_giving) dX1_giving_2 lu_X1_13 mo_X9_giving hb rfl (Nat.le_of_ble_eq_true rfl) (Nat.le_of_ble_eq_true rfl) (by decide) (g_X9_1 D hb) ?_
  refine e_imulN dX1_giving_5 ?_
  refine e_top (nI 2) (by decide) ?_
  exact e_iret dX1_giving_6 rfl (hp _ rfl)
set_option maxRecDepth 20000 in
theorem g_X7_10 (D : En) {h : AH} {b t : Nat} {N : Nat → Int32} (hb : h[b]? = some (.inr (10, tgF N t))) : Sp D 0 mX7_giving [.ref b] h 0 0 (some (.int (nI 5))) (fun h' => h' = h) := by
  intro post hp
  show Ev D 0 mX7_giving 0 [some (.ref (b))] [] h 0 0 post
  refine e_iconst (nI (5)) dX7_giving_0 (by decide) ?_
  refine e_top (nI 5) (by decide) ?_
  exact e_iret dX7_giving_1 rfl (hp _ rfl)
set_option maxRecDepth 20000 in
theorem g_X10_10 (D : En) {h : AH} {b t : Nat} {N : Nat → Int32} (hb : h[b]? = some (.inr (10, tgF N t))) : Sp D 1 mX10_giving [.ref b] h 0 0 (some (.int (nI 4))) (fun h' => h' = h) := by
  intro post hp
  show Ev D 1 mX10_giving 0 [some (.ref (b))] [] h 0 0 post
  refine e_aload_n dX10_giving_0 rfl ?_
  refine c_U0iR (N := mX7_giving) dX10_giving_1 lu_X10_17 mo_X7_giving hb rfl (Nat.le_of_ble_eq_true rfl) (Nat.le_of_ble_eq_true rfl) (by decide) (g_X7_10 D hb) ?_
  refine e_iconst (nI (1)) dX10_giving_4 (by decide) ?_
  refine e_isubN dX10_giving_5 (by omega) ?_
  refine e_top (nI 4) (by decide) ?_
  exact e_iret dX10_giving_6 rfl (hp _ rfl)
set_option maxRecDepth 20000 in
theorem g_X9_0 (D : En) {h : AH} {b t : Nat} {N : Nat → Int32} (hb : h[b]? = some (.inr (0, tgF N t))) : Sp D 0 mX9_giving [.ref b] h 0 0 (some (.int (nI 1))) (fun h' => h' = h) := by
  intro post hp
  show Ev D 0 mX9_giving 0 [some (.ref (b))] [] h 0 0 post
  refine e_iconst (nI (1)) dX9_giving_0 (by decide) ?_
  refine e_top (nI 1) (by decide) ?_
  exact e_iret dX9_giving_1 rfl (hp _ rfl)
set_option maxRecDepth 20000 in
theorem g_X1_0 (D : En) {h : AH} {b t : Nat} {N : Nat → Int32} (hb : h[b]? = some (.inr (0, tgF N t))) : Sp D 1 mX1_giving [.ref b] h 0 0 (some (.int (nI 2))) (fun h' => h' = h) := by
  intro post hp
  show Ev D 1 mX1_giving 0 [some (.ref (b))] [] h 0 0 post
  refine e_iconst (nI (2)) dX1_giving_0 (by decide) ?_
  refine e_aload_n dX1_giving_1 rfl ?_
  refine c_U0iR (N := mX9_giving) dX1_giving_2 lu_X1_13 mo_X9_giving hb rfl (Nat.le_of_ble_eq_true rfl) (Nat.le_of_ble_eq_true rfl) (by decide) (g_X9_0 D hb) ?_
  refine e_imulN dX1_giving_5 ?_
  refine e_top (nI 2) (by decide) ?_
  exact e_iret dX1_giving_6 rfl (hp _ rfl)
set_option maxRecDepth 20000 in
theorem g_X0_0 (D : En) {h : AH} {b t : Nat} {N : Nat → Int32} (hb : h[b]? = some (.inr (0, tgF N t))) : Sp D 2 mX0_giving [.ref b] h 0 0 (some (.int (nI 3))) (fun h' => h' = h) := by
  intro post hp
  show Ev D 2 mX0_giving 0 [some (.ref (b))] [] h 0 0 post
  refine e_aload_n dX0_giving_0 rfl ?_
  refine c_U0iR (N := mX1_giving) dX0_giving_1 lu_X0_13 mo_X1_giving hb rfl (Nat.le_of_ble_eq_true rfl) (Nat.le_of_ble_eq_true rfl) (by decide) (g_X1_0 D hb) ?_
  refine e_iconst (nI (1)) dX0_giving_4 (by decide) ?_
  refine e_iaddN dX0_giving_5 ?_
  refine e_top (nI 3) (by decide) ?_
  exact e_iret dX0_giving_6 rfl (hp _ rfl)
set_option maxRecDepth 20000 in
theorem sp_X9_9 (D : En) {h : AH} {b t : Nat} {N : Nat → Int32} (hb : h[b]? = some (.inr (9, tgF N t))) : Sp D 0 mX9_spanWide [.ref b] h 0 0 (some (.int (N (112 + 7 * t + 4)))) (fun h' => h' = h) := by
  intro post hp
  show Ev D 0 mX9_spanWide 0 [some (.ref (b))] [] h 0 0 post
  refine e_aload_n dX9_spanWide_0 rfl ?_
  refine e_get dX9_spanWide_1 fl_X9_24_9 hb rfl ?_
  exact e_iret dX9_spanWide_4 rfl (hp _ rfl)
set_option maxRecDepth 20000 in
theorem sp_X9_7 (D : En) {h : AH} {b t : Nat} {N : Nat → Int32} (hb : h[b]? = some (.inr (7, tgF N t))) : Sp D 0 mX9_spanWide [.ref b] h 0 0 (some (.int (N (112 + 7 * t + 4)))) (fun h' => h' = h) := by
  intro post hp
  show Ev D 0 mX9_spanWide 0 [some (.ref (b))] [] h 0 0 post
  refine e_aload_n dX9_spanWide_0 rfl ?_
  refine e_get dX9_spanWide_1 fl_X9_24_7 hb rfl ?_
  exact e_iret dX9_spanWide_4 rfl (hp _ rfl)
set_option maxRecDepth 20000 in
theorem sp_X9_8 (D : En) {h : AH} {b t : Nat} {N : Nat → Int32} (hb : h[b]? = some (.inr (8, tgF N t))) : Sp D 0 mX9_spanWide [.ref b] h 0 0 (some (.int (N (112 + 7 * t + 4)))) (fun h' => h' = h) := by
  intro post hp
  show Ev D 0 mX9_spanWide 0 [some (.ref (b))] [] h 0 0 post
  refine e_aload_n dX9_spanWide_0 rfl ?_
  refine e_get dX9_spanWide_1 fl_X9_24_8 hb rfl ?_
  exact e_iret dX9_spanWide_4 rfl (hp _ rfl)
set_option maxRecDepth 20000 in
theorem sp_X9_3 (D : En) {h : AH} {b t : Nat} {N : Nat → Int32} (hb : h[b]? = some (.inr (3, tgF N t))) : Sp D 0 mX9_spanWide [.ref b] h 0 0 (some (.int (N (112 + 7 * t + 4)))) (fun h' => h' = h) := by
  intro post hp
  show Ev D 0 mX9_spanWide 0 [some (.ref (b))] [] h 0 0 post
  refine e_aload_n dX9_spanWide_0 rfl ?_
  refine e_get dX9_spanWide_1 fl_X9_24_3 hb rfl ?_
  exact e_iret dX9_spanWide_4 rfl (hp _ rfl)
set_option maxRecDepth 20000 in
theorem sp_X9_1 (D : En) {h : AH} {b t : Nat} {N : Nat → Int32} (hb : h[b]? = some (.inr (1, tgF N t))) : Sp D 0 mX9_spanWide [.ref b] h 0 0 (some (.int (N (112 + 7 * t + 4)))) (fun h' => h' = h) := by
  intro post hp
  show Ev D 0 mX9_spanWide 0 [some (.ref (b))] [] h 0 0 post
  refine e_aload_n dX9_spanWide_0 rfl ?_
  refine e_get dX9_spanWide_1 fl_X9_24_1 hb rfl ?_
  exact e_iret dX9_spanWide_4 rfl (hp _ rfl)
set_option maxRecDepth 20000 in
theorem sp_X9_10 (D : En) {h : AH} {b t : Nat} {N : Nat → Int32} (hb : h[b]? = some (.inr (10, tgF N t))) : Sp D 0 mX9_spanWide [.ref b] h 0 0 (some (.int (N (112 + 7 * t + 4)))) (fun h' => h' = h) := by
  intro post hp
  show Ev D 0 mX9_spanWide 0 [some (.ref (b))] [] h 0 0 post
  refine e_aload_n dX9_spanWide_0 rfl ?_
  refine e_get dX9_spanWide_1 fl_X9_24_10 hb rfl ?_
  exact e_iret dX9_spanWide_4 rfl (hp _ rfl)
set_option maxRecDepth 20000 in
theorem sp_X10_10 (D : En) {h : AH} {b t : Nat} {N : Nat → Int32} (hb : h[b]? = some (.inr (10, tgF N t))) : Sp D 1 mX10_spanWide [.ref b] h 0 0 (some (.int (nI 2 * N (112 + 7 * t + 4)))) (fun h' => h' = h) := by
  intro post hp
  show Ev D 1 mX10_spanWide 0 [some (.ref (b))] [] h 0 0 post
  refine e_iconst (nI (2)) dX10_spanWide_0 (by decide) ?_
  refine e_aload_n dX10_spanWide_1 rfl ?_
  refine c_W0iR (N := mX9_spanWide) dX10_spanWide_2 lw_X10_13 mo_X9_spanWide hb rfl (Nat.le_of_ble_eq_true rfl) (Nat.le_of_ble_eq_true rfl) (by decide) (sp_X9_10 D hb) ?_
  refine e_imul dX10_spanWide_5 ?_
  exact e_iret dX10_spanWide_6 rfl (hp _ rfl)
set_option maxRecDepth 20000 in
theorem sp_X9_0 (D : En) {h : AH} {b t : Nat} {N : Nat → Int32} (hb : h[b]? = some (.inr (0, tgF N t))) : Sp D 0 mX9_spanWide [.ref b] h 0 0 (some (.int (N (112 + 7 * t + 4)))) (fun h' => h' = h) := by
  intro post hp
  show Ev D 0 mX9_spanWide 0 [some (.ref (b))] [] h 0 0 post
  refine e_aload_n dX9_spanWide_0 rfl ?_
  refine e_get dX9_spanWide_1 fl_X9_24_0 hb rfl ?_
  exact e_iret dX9_spanWide_4 rfl (hp _ rfl)
theorem vc_X4_84 {D : En} {d : Nat} {M : Mt} {pc : Nat} {ls : List (Option Value)} {st : List Value} {h : AH} {nc ns : Nat} {post : Option Value → AH → Prop} {b t : Nat} {N : Nat → Int32} (hM : M.1.cls = RX4) (hd : decode M.2.1 pc = .ok (.invokevirtual 84, 3)) (hb : ThingAt h b t N) (hk : kdN N t < 7) (hr : (st.map fun v => v.category).sum ≤ 8) (hdd : 3 < d) (kk : Ev D d M (pc + 3) ls (.int (G0 (kdN N t)) :: st) h nc ns post) : Ev D d M pc ls (.ref b :: st) h nc ns post := by
  obtain ⟨-, hb⟩ := hb
  rcases (show kdN N t = 0 ∨ kdN N t = 1 ∨ kdN N t = 2 ∨ kdN N t = 3 ∨ kdN N t = 4 ∨ kdN N t = 5 ∨ kdN N t = 6 by omega) with e9 | e9 | e9 | e9 | e9 | e9 | e9
  · rw [e9] at hb kk
    exact c_V0iR (N := mX9_giving) hd (by rw [hM]; exact lv_X4_84) mo_X9_giving (Or.inl ⟨9, tgF N t, _, hb, rfl, rfl⟩) hr (Nat.le_of_ble_eq_true rfl) (Nat.lt_of_le_of_lt (by decide) hdd) (g_X9_9 D hb) kk
  · rw [e9] at hb kk
    exact c_O0iR (x := yX9_giving) (owner := "EmptyLand$Thing") (C := RX7) (N := mX7_giving) hd (by rw [hM]; exact lo_X4_84_7) mo_X7_giving (Or.inl ⟨7, tgF N t, _, hb, rfl, rfl⟩) hr (Nat.le_of_ble_eq_true rfl) (Nat.lt_of_le_of_lt (by decide) hdd) (g_X7_7 D hb) kk
  · rw [e9] at hb kk
    exact c_O0iR (x := yX9_giving) (owner := "EmptyLand$Thing") (C := RX8) (N := mX8_giving) hd (by rw [hM]; exact lo_X4_84_8) mo_X8_giving (Or.inl ⟨8, tgF N t, _, hb, rfl, rfl⟩) hr (Nat.le_of_ble_eq_true rfl) (Nat.lt_of_le_of_lt (by decide) hdd) (g_X8_8 D hb) kk
  · rw [e9] at hb kk
    exact c_O0iR (x := yX9_giving) (owner := "EmptyLand$Thing") (C := RX3) (N := mX3_giving) hd (by rw [hM]; exact lo_X4_84_3) mo_X3_giving (Or.inl ⟨3, tgF N t, _, hb, rfl, rfl⟩) hr (Nat.le_of_ble_eq_true rfl) (Nat.lt_of_le_of_lt (by decide) hdd) (g_X3_3 D hb) kk
  · rw [e9] at hb kk
    exact c_O0iR (x := yX9_giving) (owner := "EmptyLand$Thing") (C := RX1) (N := mX1_giving) hd (by rw [hM]; exact lo_X4_84_1) mo_X1_giving (Or.inl ⟨1, tgF N t, _, hb, rfl, rfl⟩) hr (Nat.le_of_ble_eq_true rfl) (Nat.lt_of_le_of_lt (by decide) hdd) (g_X1_1 D hb) kk
  · rw [e9] at hb kk
    exact c_O0iR (x := yX9_giving) (owner := "EmptyLand$Thing") (C := RX10) (N := mX10_giving) hd (by rw [hM]; exact lo_X4_84_10) mo_X10_giving (Or.inl ⟨10, tgF N t, _, hb, rfl, rfl⟩) hr (Nat.le_of_ble_eq_true rfl) (Nat.lt_of_le_of_lt (by decide) hdd) (g_X10_10 D hb) kk
  · rw [e9] at hb kk
    exact c_O0iR (x := yX9_giving) (owner := "EmptyLand$Thing") (C := RX0) (N := mX0_giving) hd (by rw [hM]; exact lo_X4_84_0) mo_X0_giving (Or.inl ⟨0, tgF N t, _, hb, rfl, rfl⟩) hr (Nat.le_of_ble_eq_true rfl) (Nat.lt_of_le_of_lt (by decide) hdd) (g_X0_0 D hb) kk
theorem vc_X4_109 {D : En} {d : Nat} {M : Mt} {pc : Nat} {ls : List (Option Value)} {st : List Value} {h : AH} {nc ns : Nat} {post : Option Value → AH → Prop} {b t : Nat} {N : Nat → Int32} (hM : M.1.cls = RX4) (hd : decode M.2.1 pc = .ok (.invokevirtual 109, 3)) (hb : ThingAt h b t N) (hk : kdN N t < 7) (hr : (st.map fun v => v.category).sum ≤ 8) (hdd : 3 < d) (kk : Ev D d M (pc + 3) ls (.int (if nI (kdN N t) = nI 5 then nI 2 * N (112 + 7 * t + 4) else N (112 + 7 * t + 4)) :: st) h nc ns post) : Ev D d M pc ls (.ref b :: st) h nc ns post := by
  obtain ⟨-, hb⟩ := hb
  rcases (show kdN N t = 0 ∨ kdN N t = 1 ∨ kdN N t = 2 ∨ kdN N t = 3 ∨ kdN N t = 4 ∨ kdN N t = 5 ∨ kdN N t = 6 by omega) with e9 | e9 | e9 | e9 | e9 | e9 | e9
  · rw [e9] at hb kk
    exact c_V0iR (N := mX9_spanWide) hd (by rw [hM]; exact lv_X4_109) mo_X9_spanWide (Or.inl ⟨9, tgF N t, _, hb, rfl, rfl⟩) hr (Nat.le_of_ble_eq_true rfl) (Nat.lt_of_le_of_lt (by decide) hdd) (sp_X9_9 D hb) kk
  · rw [e9] at hb kk
    exact c_O0iR (x := yX9_spanWide) (owner := "EmptyLand$Thing") (C := RX7) (N := mX9_spanWide) hd (by rw [hM]; exact lo_X4_109_7) mo_X9_spanWide (Or.inl ⟨7, tgF N t, _, hb, rfl, rfl⟩) hr (Nat.le_of_ble_eq_true rfl) (Nat.lt_of_le_of_lt (by decide) hdd) (sp_X9_7 D hb) kk
  · rw [e9] at hb kk
    exact c_O0iR (x := yX9_spanWide) (owner := "EmptyLand$Thing") (C := RX8) (N := mX9_spanWide) hd (by rw [hM]; exact lo_X4_109_8) mo_X9_spanWide (Or.inl ⟨8, tgF N t, _, hb, rfl, rfl⟩) hr (Nat.le_of_ble_eq_true rfl) (Nat.lt_of_le_of_lt (by decide) hdd) (sp_X9_8 D hb) kk
  · rw [e9] at hb kk
    exact c_O0iR (x := yX9_spanWide) (owner := "EmptyLand$Thing") (C := RX3) (N := mX9_spanWide) hd (by rw [hM]; exact lo_X4_109_3) mo_X9_spanWide (Or.inl ⟨3, tgF N t, _, hb, rfl, rfl⟩) hr (Nat.le_of_ble_eq_true rfl) (Nat.lt_of_le_of_lt (by decide) hdd) (sp_X9_3 D hb) kk
  · rw [e9] at hb kk
    exact c_O0iR (x := yX9_spanWide) (owner := "EmptyLand$Thing") (C := RX1) (N := mX9_spanWide) hd (by rw [hM]; exact lo_X4_109_1) mo_X9_spanWide (Or.inl ⟨1, tgF N t, _, hb, rfl, rfl⟩) hr (Nat.le_of_ble_eq_true rfl) (Nat.lt_of_le_of_lt (by decide) hdd) (sp_X9_1 D hb) kk
  · rw [e9] at hb kk
    exact c_O0iR (x := yX9_spanWide) (owner := "EmptyLand$Thing") (C := RX10) (N := mX10_spanWide) hd (by rw [hM]; exact lo_X4_109_10) mo_X10_spanWide (Or.inl ⟨10, tgF N t, _, hb, rfl, rfl⟩) hr (Nat.le_of_ble_eq_true rfl) (Nat.lt_of_le_of_lt (by decide) hdd) (sp_X10_10 D hb) kk
  · rw [e9] at hb kk
    exact c_O0iR (x := yX9_spanWide) (owner := "EmptyLand$Thing") (C := RX0) (N := mX9_spanWide) hd (by rw [hM]; exact lo_X4_109_0) mo_X9_spanWide (Or.inl ⟨0, tgF N t, _, hb, rfl, rfl⟩) hr (Nat.le_of_ble_eq_true rfl) (Nat.lt_of_le_of_lt (by decide) hdd) (sp_X9_0 D hb) kk
theorem tf_get1 {D : En} {d : Nat} {M : Mt} {pc : Nat} {ls : List (Option Value)} {st : List Value} {h : AH} {nc ns : Nat} {post : Option Value → AH → Prop} {idx b t : Nat} {N : Nat → Int32} (hd : decode M.2.1 pc = .ok (.getfield idx, 3)) (hf : ∀ ci, (ci = 0 ∨ ci = 1 ∨ ci = 3 ∨ ci = 7 ∨ ci = 8 ∨ ci = 9 ∨ ci = 10) → FL M.1.cls idx ci 1) (hb : ThingAt h b t N) (kk : Ev D d M (pc + 3) ls (.int (N (112 + 7 * t + 1)) :: st) h nc ns post) : Ev D d M pc ls (.ref b :: st) h nc ns post := by
  refine e_get (k := 1) hd (hf (ciK (kdN N t)) ?_) hb.2 rfl kk
  unfold ciK
  split <;> simp
theorem tf_get2 {D : En} {d : Nat} {M : Mt} {pc : Nat} {ls : List (Option Value)} {st : List Value} {h : AH} {nc ns : Nat} {post : Option Value → AH → Prop} {idx b t : Nat} {N : Nat → Int32} (hd : decode M.2.1 pc = .ok (.getfield idx, 3)) (hf : ∀ ci, (ci = 0 ∨ ci = 1 ∨ ci = 3 ∨ ci = 7 ∨ ci = 8 ∨ ci = 9 ∨ ci = 10) → FL M.1.cls idx ci 2) (hb : ThingAt h b t N) (kk : Ev D d M (pc + 3) ls (.int (N (112 + 7 * t + 2)) :: st) h nc ns post) : Ev D d M pc ls (.ref b :: st) h nc ns post := by
  refine e_get (k := 2) hd (hf (ciK (kdN N t)) ?_) hb.2 rfl kk
  unfold ciK
  split <;> simp
theorem tf_get3 {D : En} {d : Nat} {M : Mt} {pc : Nat} {ls : List (Option Value)} {st : List Value} {h : AH} {nc ns : Nat} {post : Option Value → AH → Prop} {idx b t : Nat} {N : Nat → Int32} (hd : decode M.2.1 pc = .ok (.getfield idx, 3)) (hf : ∀ ci, (ci = 0 ∨ ci = 1 ∨ ci = 3 ∨ ci = 7 ∨ ci = 8 ∨ ci = 9 ∨ ci = 10) → FL M.1.cls idx ci 3) (hb : ThingAt h b t N) (kk : Ev D d M (pc + 3) ls (.int (N (112 + 7 * t + 3)) :: st) h nc ns post) : Ev D d M pc ls (.ref b :: st) h nc ns post := by
  refine e_get (k := 3) hd (hf (ciK (kdN N t)) ?_) hb.2 rfl kk
  unfold ciK
  split <;> simp
theorem tf_get4 {D : En} {d : Nat} {M : Mt} {pc : Nat} {ls : List (Option Value)} {st : List Value} {h : AH} {nc ns : Nat} {post : Option Value → AH → Prop} {idx b t : Nat} {N : Nat → Int32} (hd : decode M.2.1 pc = .ok (.getfield idx, 3)) (hf : ∀ ci, (ci = 0 ∨ ci = 1 ∨ ci = 3 ∨ ci = 7 ∨ ci = 8 ∨ ci = 9 ∨ ci = 10) → FL M.1.cls idx ci 4) (hb : ThingAt h b t N) (kk : Ev D d M (pc + 3) ls (.int (N (112 + 7 * t + 4)) :: st) h nc ns post) : Ev D d M pc ls (.ref b :: st) h nc ns post := by
  refine e_get (k := 4) hd (hf (ciK (kdN N t)) ?_) hb.2 rfl kk
  unfold ciK
  split <;> simp
theorem tl_X4_106 : ∀ ci, (ci = 0 ∨ ci = 1 ∨ ci = 3 ∨ ci = 7 ∨ ci = 8 ∨ ci = 9 ∨ ci = 10) → FL RX4 106 ci 1 := by
  intro ci h
  rcases h with rfl | rfl | rfl | rfl | rfl | rfl | rfl
  · exact fl_X4_106_0
  · exact fl_X4_106_1
  · exact fl_X4_106_3
  · exact fl_X4_106_7
  · exact fl_X4_106_8
  · exact fl_X4_106_9
  · exact fl_X4_106_10
theorem tl_X4_123 : ∀ ci, (ci = 0 ∨ ci = 1 ∨ ci = 3 ∨ ci = 7 ∨ ci = 8 ∨ ci = 9 ∨ ci = 10) → FL RX4 123 ci 2 := by
  intro ci h
  rcases h with rfl | rfl | rfl | rfl | rfl | rfl | rfl
  · exact fl_X4_123_0
  · exact fl_X4_123_1
  · exact fl_X4_123_3
  · exact fl_X4_123_7
  · exact fl_X4_123_8
  · exact fl_X4_123_9
  · exact fl_X4_123_10
theorem tl_X4_168 : ∀ ci, (ci = 0 ∨ ci = 1 ∨ ci = 3 ∨ ci = 7 ∨ ci = 8 ∨ ci = 9 ∨ ci = 10) → FL RX4 168 ci 3 := by
  intro ci h
  rcases h with rfl | rfl | rfl | rfl | rfl | rfl | rfl
  · exact fl_X4_168_0
  · exact fl_X4_168_1
  · exact fl_X4_168_3
  · exact fl_X4_168_7
  · exact fl_X4_168_8
  · exact fl_X4_168_9
  · exact fl_X4_168_10
