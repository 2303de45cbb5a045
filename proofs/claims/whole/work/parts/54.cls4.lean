theorem ur_0 {N : Nat → Int32} {nv v : Nat} {r : Int32} : usersR N nv 0 r v = allR N v := by
  unfold usersR startR
  rw [if_pos (Or.inl rfl), if_pos rfl]
  exact Int32.add_zero _
theorem ur_s {N : Nat → Int32} {nv k v : Nat} {r : Int32} (hk : k = 1 ∨ k = 2 ∨ k = 4 ∨ k = 5) : usersR N nv k r v = sumF (termR N k r v) nv := by
  unfold usersR startR
  rw [if_neg (by omega), if_neg (by omega), if_neg (by omega)]
  exact Int32.zero_add _
theorem ur_3 {N : Nat → Int32} {nv v : Nat} {r : Int32} : sumF (termR N 3 r v) nv - N (16 + 4 * v + 1 + 1) = usersR N nv 3 r v := by
  unfold usersR startR
  rw [if_neg (by omega), if_pos rfl, if_neg (by omega), Int32.add_comm, Int32.sub_eq_add_neg]
theorem ur_6 {N : Nat → Int32} {nv v : Nat} {r : Int32} : sumF (termR N 6 r v) nv + allR N v = usersR N nv 6 r v := by
  unfold usersR startR
  rw [if_pos (Or.inr rfl), if_neg (by omega), Int32.add_comm]
set_option maxRecDepth 20000 in
theorem ul_X7 (D : En) {h : AH} {a : Nat} {N : Nat → Int32} (hL : LandAt h a N) (hI : IN N) {post : Option Value → AH → Prop}  {b : Nat} (k : Nat) (r : Int32) (v : Nat) (hv : v < 8) (sv : Int32) (hsv : ∀ w, w < nvN N → ((sv >>> (nI w &&& 31)) &&& nI 1 = 0 ↔ ¬ servR N k r v w)) (hk : k = 1 ∨ k = 5) (hp : ∀ h', h' = h → post (some (.int (sumF (termR N k r v) (nvN N)))) h') : ∀ (j : Nat) (w : Nat) (ac : Int32), (w + j = nvN N) → (ac = sumF (termR N k r v) w) → Ev D 0 mX7_usersFrom 6 [some (.ref (b)), some (.ref (a)), some (.int (nI (v))), some (.int (sv)), some (.int (ac)), some (.int (nI (w)))] [] h 0 0 post := by
  obtain ⟨hLo, ⟨f1, hr1, he1⟩, ⟨f2, hr2, he2⟩, ⟨f3, hr3, he3⟩, ⟨T4, hr4, he4⟩, ⟨f5, hr5, he5⟩, ⟨f6, hr6, he6⟩, ⟨f7, hr7, he7⟩, ⟨R8, hr8, he8⟩, ⟨f9, hr9⟩, ⟨f10, hr10⟩, ⟨fG, hrG, heG⟩⟩ := id hL
  have hY := hI.1
  have hnv := hY.2.1
  have htc10 := hY.2.2.2.1
  intro j
  induction j with
  | zero =>
    intro w ac hm ha
    refine e_iload dX7_usersFrom_6 rfl ?_
    refine e_aload_n dX7_usersFrom_8 rfl ?_
    refine e_get dX7_usersFrom_9 fl_X7_13_4 hLo rfl ?_
    refine e_top (nI (nvN N)) hY.1 ?_
    refine e_icmp_geN 46 dX7_usersFrom_12 (by decide) (by omega) (by omega) (fun hcq12 => ?_) (fun hcq12 => absurd hcq12 (by omega))
    refine e_iload dX7_usersFrom_46 rfl ?_
    rw [show w = nvN N by omega] at ha
    exact e_iret dX7_usersFrom_48 rfl (by rw [ha]; exact hp _ rfl)
  | succ j ih =>
    intro w ac hm ha
    refine e_iload dX7_usersFrom_6 rfl ?_
    refine e_aload_n dX7_usersFrom_8 rfl ?_
    refine e_get dX7_usersFrom_9 fl_X7_13_4 hLo rfl ?_
    refine e_top (nI (nvN N)) hY.1 ?_
    refine e_icmp_geN 46 dX7_usersFrom_12 (by decide) (by omega) (by omega) (fun hcq12 => absurd hcq12 (by omega)) (fun hcq12 => ?_)
    refine e_iload_n dX7_usersFrom_15 rfl ?_
    refine e_iload dX7_usersFrom_16 rfl ?_
    refine e_ishr dX7_usersFrom_18 ?_
    refine e_iconst (nI (1)) dX7_usersFrom_19 (by decide) ?_
    refine e_iand dX7_usersFrom_20 ?_
    refine e_if_eq 40 dX7_usersFrom_21 (by decide) (fun hcq21 => ?_) (fun hcq21 => ?_)
    · refine e_iincN (w + 1) dX7_usersFrom_40 rfl (by decide) (nI_add _ _) ?_
      refine e_goto 6 dX7_usersFrom_43 (by decide) ?_
      exact ih (w + 1) _ (by omega) (by rw [sumF, ← ha, termR]; first | (rw [if_pos hk, if_pos (Decidable.of_not_not (fun zz => hcq21 ((hsv w (by omega)).mpr zz)))]; done) | (rw [if_pos hk, if_neg ((hsv w (by omega)).mp hcq21), add_0]; done))
    · refine e_iload dX7_usersFrom_24 rfl ?_
      refine e_aload_n dX7_usersFrom_26 rfl ?_
      refine e_get dX7_usersFrom_27 fl_X7_19_4 hLo rfl ?_
      refine e_iconst (nI (3)) dX7_usersFrom_30 (by decide) ?_
      refine e_iload dX7_usersFrom_31 rfl ?_
      refine e_imulN dX7_usersFrom_33 ?_
      refine e_iconst (nI (0)) dX7_usersFrom_34 (by decide) ?_
      refine e_iaddN dX7_usersFrom_35 ?_
      refine e_ild ((3 * w) + 0) ((N (16 + 4 * w + 1 + 0))) dX7_usersFrom_36 hr2 rfl (by omega) (by decide) (he2 _ (by omega) _ (by omega)) ?_
      refine e_iadd dX7_usersFrom_37 ?_
      refine e_istore dX7_usersFrom_38 (by decide) ?_
      refine e_iincN (w + 1) dX7_usersFrom_40 rfl (by decide) (nI_add _ _) ?_
      refine e_goto 6 dX7_usersFrom_43 (by decide) ?_
      exact ih (w + 1) _ (by omega) (by rw [sumF, ← ha, termR]; first | (rw [if_pos hk, if_pos (Decidable.of_not_not (fun zz => hcq21 ((hsv w (by omega)).mpr zz)))]; done) | (rw [if_pos hk, if_neg ((hsv w (by omega)).mp hcq21), add_0]; done))
set_option maxRecDepth 20000 in
theorem u_X7 (D : En) {h : AH} {a : Nat} {N : Nat → Int32} (hL : LandAt h a N) (hI : IN N) {b : Nat} (k : Nat) (r : Int32) (v : Nat) (hv : v < 8) (sv : Int32) (hsv : ∀ w, w < nvN N → ((sv >>> (nI w &&& 31)) &&& nI 1 = 0 ↔ ¬ servR N k r v w)) (hk : k = 1 ∨ k = 5) : Sp D 0 mX7_usersFrom [.ref (b), .ref (a), .int (nI (v)), .int (sv)] h 0 0 (some (.int (sumF (termR N k r v) (nvN N)))) (fun h' => h' = h) := by
  obtain ⟨hLo, ⟨f1, hr1, he1⟩, ⟨f2, hr2, he2⟩, ⟨f3, hr3, he3⟩, ⟨T4, hr4, he4⟩, ⟨f5, hr5, he5⟩, ⟨f6, hr6, he6⟩, ⟨f7, hr7, he7⟩, ⟨R8, hr8, he8⟩, ⟨f9, hr9⟩, ⟨f10, hr10⟩, ⟨fG, hrG, heG⟩⟩ := id hL
  have hY := hI.1
  have hnv := hY.2.1
  have htc10 := hY.2.2.2.1
  intro post hp
  show Ev D 0 mX7_usersFrom 0 [some (.ref (b)), some (.ref (a)), some (.int (nI (v))), some (.int (sv)), none, none] [] h 0 0 post
  refine e_iconst (nI (0)) dX7_usersFrom_0 (by decide) ?_
  refine e_istore dX7_usersFrom_1 (by decide) ?_
  refine e_iconst (nI (0)) dX7_usersFrom_3 (by decide) ?_
  refine e_istore dX7_usersFrom_4 (by decide) ?_
  exact ul_X7 D hL hI k r v hv sv hsv hk hp (nvN N) 0 _ (by omega) rfl
set_option maxRecDepth 20000 in
theorem ul_X8 (D : En) {h : AH} {a : Nat} {N : Nat → Int32} (hL : LandAt h a N) (hI : IN N) {post : Option Value → AH → Prop}  {b : Nat} (k : Nat) (r : Int32) (v : Nat) (hv : v < 8) (sv : Int32) (hsv : ∀ w, w < nvN N → ((sv >>> (nI w &&& 31)) &&& nI 1 = 0 ↔ ¬ servR N k r v w)) (hk : k = 2 ∨ k = 3) (hp : ∀ h', h' = h → post (some (.int (sumF (termR N k r v) (nvN N)))) h') : ∀ (j : Nat) (w : Nat) (ac : Int32), (w + j = nvN N) → (ac = sumF (termR N k r v) w) → Ev D 1 mX8_usersFrom 6 [some (.ref (b)), some (.ref (a)), some (.int (nI (v))), some (.int (sv)), some (.int (ac)), some (.int (nI (w)))] [] h 0 0 post := by
  obtain ⟨hLo, ⟨f1, hr1, he1⟩, ⟨f2, hr2, he2⟩, ⟨f3, hr3, he3⟩, ⟨T4, hr4, he4⟩, ⟨f5, hr5, he5⟩, ⟨f6, hr6, he6⟩, ⟨f7, hr7, he7⟩, ⟨R8, hr8, he8⟩, ⟨f9, hr9⟩, ⟨f10, hr10⟩, ⟨fG, hrG, heG⟩⟩ := id hL
  have hY := hI.1
  have hnv := hY.2.1
  have htc10 := hY.2.2.2.1
  intro j
  induction j with
  | zero =>
    intro w ac hm ha
    refine e_iload dX8_usersFrom_6 rfl ?_
    refine e_aload_n dX8_usersFrom_8 rfl ?_
    refine e_get dX8_usersFrom_9 fl_X8_13_4 hLo rfl ?_
    refine e_top (nI (nvN N)) hY.1 ?_
    refine e_icmp_geN 41 dX8_usersFrom_12 (by decide) (by omega) (by omega) (fun hcq12 => ?_) (fun hcq12 => absurd hcq12 (by omega))
    refine e_iload dX8_usersFrom_41 rfl ?_
    rw [show w = nvN N by omega] at ha
    exact e_iret dX8_usersFrom_43 rfl (by rw [ha]; exact hp _ rfl)
  | succ j ih =>
    intro w ac hm ha
    refine e_iload dX8_usersFrom_6 rfl ?_
    refine e_aload_n dX8_usersFrom_8 rfl ?_
    refine e_get dX8_usersFrom_9 fl_X8_13_4 hLo rfl ?_
    refine e_top (nI (nvN N)) hY.1 ?_
    refine e_icmp_geN 41 dX8_usersFrom_12 (by decide) (by omega) (by omega) (fun hcq12 => absurd hcq12 (by omega)) (fun hcq12 => ?_)
    refine e_iload_n dX8_usersFrom_15 rfl ?_
    refine e_iload dX8_usersFrom_16 rfl ?_
    refine e_ishr dX8_usersFrom_18 ?_
    refine e_iconst (nI (1)) dX8_usersFrom_19 (by decide) ?_
    refine e_iand dX8_usersFrom_20 ?_
    refine e_if_eq 35 dX8_usersFrom_21 (by decide) (fun hcq21 => ?_) (fun hcq21 => ?_)
    · refine e_iincN (w + 1) dX8_usersFrom_35 rfl (by decide) (nI_add _ _) ?_
      refine e_goto 6 dX8_usersFrom_38 (by decide) ?_
      exact ih (w + 1) _ (by omega) (by rw [sumF, ← ha, termR]; first | (rw [if_neg (by omega), if_pos hk, if_pos (Decidable.of_not_not (fun zz => hcq21 ((hsv w (by omega)).mpr zz)))]; done) | (rw [if_neg (by omega), if_pos hk, if_neg ((hsv w (by omega)).mp hcq21), add_0]; done))
    · refine e_iload dX8_usersFrom_24 rfl ?_
      refine e_aload_n dX8_usersFrom_26 rfl ?_
      refine e_iload dX8_usersFrom_27 rfl ?_
      refine c_V1iR (N := mX4_allOf) dX8_usersFrom_29 lv_X8_19 mo_X4_allOf hL.cn (Nat.le_of_ble_eq_true rfl) (Nat.le_of_ble_eq_true rfl) (by decide) (k_allOf D hL hI (w) (by omega)) ?_
      refine e_iadd dX8_usersFrom_32 ?_
      refine e_istore dX8_usersFrom_33 (by decide) ?_
      refine e_iincN (w + 1) dX8_usersFrom_35 rfl (by decide) (nI_add _ _) ?_
      refine e_goto 6 dX8_usersFrom_38 (by decide) ?_
      exact ih (w + 1) _ (by omega) (by rw [sumF, ← ha, termR]; first | (rw [if_neg (by omega), if_pos hk, if_pos (Decidable.of_not_not (fun zz => hcq21 ((hsv w (by omega)).mpr zz)))]; done) | (rw [if_neg (by omega), if_pos hk, if_neg ((hsv w (by omega)).mp hcq21), add_0]; done))
set_option maxRecDepth 20000 in
theorem u_X8 (D : En) {h : AH} {a : Nat} {N : Nat → Int32} (hL : LandAt h a N) (hI : IN N) {b : Nat} (k : Nat) (r : Int32) (v : Nat) (hv : v < 8) (sv : Int32) (hsv : ∀ w, w < nvN N → ((sv >>> (nI w &&& 31)) &&& nI 1 = 0 ↔ ¬ servR N k r v w)) (hk : k = 2 ∨ k = 3) : Sp D 1 mX8_usersFrom [.ref (b), .ref (a), .int (nI (v)), .int (sv)] h 0 0 (some (.int (sumF (termR N k r v) (nvN N)))) (fun h' => h' = h) := by
  obtain ⟨hLo, ⟨f1, hr1, he1⟩, ⟨f2, hr2, he2⟩, ⟨f3, hr3, he3⟩, ⟨T4, hr4, he4⟩, ⟨f5, hr5, he5⟩, ⟨f6, hr6, he6⟩, ⟨f7, hr7, he7⟩, ⟨R8, hr8, he8⟩, ⟨f9, hr9⟩, ⟨f10, hr10⟩, ⟨fG, hrG, heG⟩⟩ := id hL
  have hY := hI.1
  have hnv := hY.2.1
  have htc10 := hY.2.2.2.1
  intro post hp
  show Ev D 1 mX8_usersFrom 0 [some (.ref (b)), some (.ref (a)), some (.int (nI (v))), some (.int (sv)), none, none] [] h 0 0 post
  refine e_iconst (nI (0)) dX8_usersFrom_0 (by decide) ?_
  refine e_istore dX8_usersFrom_1 (by decide) ?_
  refine e_iconst (nI (0)) dX8_usersFrom_3 (by decide) ?_
  refine e_istore dX8_usersFrom_4 (by decide) ?_
  exact ul_X8 D hL hI k r v hv sv hsv hk hp (nvN N) 0 _ (by omega) rfl
set_option maxRecDepth 20000 in
theorem ul_X1 (D : En) {h : AH} {a : Nat} {N : Nat → Int32} (hL : LandAt h a N) (hI : IN N) {post : Option Value → AH → Prop}  {b : Nat} (k : Nat) (r : Int32) (v : Nat) (hv : v < 8) (sv : Int32) (hsv : ∀ w, w < nvN N → ((sv >>> (nI w &&& 31)) &&& nI 1 = 0 ↔ ¬ servR N k r v w)) (hk : k = 4 ∨ k = 6) (hp : ∀ h', h' = h → post (some (.int (sumF (termR N k r v) (nvN N)))) h') : ∀ (j : Nat) (w : Nat) (ac : Int32), (w + j = nvN N) → (ac = sumF (termR N k r v) w) → Ev D 0 mX1_usersFrom 6 [some (.ref (b)), some (.ref (a)), some (.int (nI (v))), some (.int (sv)), some (.int (ac)), some (.int (nI (w)))] [] h 0 0 post := by
  obtain ⟨hLo, ⟨f1, hr1, he1⟩, ⟨f2, hr2, he2⟩, ⟨f3, hr3, he3⟩, ⟨T4, hr4, he4⟩, ⟨f5, hr5, he5⟩, ⟨f6, hr6, he6⟩, ⟨f7, hr7, he7⟩, ⟨R8, hr8, he8⟩, ⟨f9, hr9⟩, ⟨f10, hr10⟩, ⟨fG, hrG, heG⟩⟩ := id hL
  have hY := hI.1
  have hnv := hY.2.1
  have htc10 := hY.2.2.2.1
  intro j
  induction j with
  | zero =>
    intro w ac hm ha
    refine e_iload dX1_usersFrom_6 rfl ?_
    refine e_aload_n dX1_usersFrom_8 rfl ?_
    refine e_get dX1_usersFrom_9 fl_X1_17_4 hLo rfl ?_
    refine e_top (nI (nvN N)) hY.1 ?_
    refine e_icmp_geN 64 dX1_usersFrom_12 (by decide) (by omega) (by omega) (fun hcq12 => ?_) (fun hcq12 => absurd hcq12 (by omega))
    refine e_iload dX1_usersFrom_64 rfl ?_
    rw [show w = nvN N by omega] at ha
    exact e_iret dX1_usersFrom_66 rfl (by rw [ha]; exact hp _ rfl)
  | succ j ih =>
    intro w ac hm ha
    refine e_iload dX1_usersFrom_6 rfl ?_
    refine e_aload_n dX1_usersFrom_8 rfl ?_
    refine e_get dX1_usersFrom_9 fl_X1_17_4 hLo rfl ?_
    refine e_top (nI (nvN N)) hY.1 ?_
    refine e_icmp_geN 64 dX1_usersFrom_12 (by decide) (by omega) (by omega) (fun hcq12 => absurd hcq12 (by omega)) (fun hcq12 => ?_)
    refine e_iload dX1_usersFrom_15 rfl ?_
    refine e_iload_n dX1_usersFrom_17 rfl ?_
    refine e_icmp_eqN 58 dX1_usersFrom_18 (by decide) (by omega) (by omega) (fun hcq18 => ?_) (fun hcq18 => ?_)
    · refine e_iincN (w + 1) dX1_usersFrom_58 rfl (by decide) (nI_add _ _) ?_
      refine e_goto 6 dX1_usersFrom_61 (by decide) ?_
      exact ih (w + 1) _ (by omega) (by rw [sumF, ← ha, termR]; first | (rw [if_neg (by omega), if_neg (by omega), if_neg (fun zz => zz.2 hcq18), add_0]; done) | (rw [if_neg (by omega), if_neg (by omega), if_pos ⟨Decidable.of_not_not (fun zz => hcq27 ((hsv w (by omega)).mpr zz)), hcq18⟩]; done) | (rw [if_neg (by omega), if_neg (by omega), if_neg (fun zz => (hsv w (by omega)).mp hcq27 zz.1), add_0]; done))
    · refine e_iload_n dX1_usersFrom_21 rfl ?_
      refine e_iload dX1_usersFrom_22 rfl ?_
      refine e_ishr dX1_usersFrom_24 ?_
      refine e_iconst (nI (1)) dX1_usersFrom_25 (by decide) ?_
      refine e_iand dX1_usersFrom_26 ?_
      refine e_if_eq 58 dX1_usersFrom_27 (by decide) (fun hcq27 => ?_) (fun hcq27 => ?_)
      · refine e_iincN (w + 1) dX1_usersFrom_58 rfl (by decide) (nI_add _ _) ?_
        refine e_goto 6 dX1_usersFrom_61 (by decide) ?_
        exact ih (w + 1) _ (by omega) (by rw [sumF, ← ha, termR]; first | (rw [if_neg (by omega), if_neg (by omega), if_neg (fun zz => zz.2 hcq18), add_0]; done) | (rw [if_neg (by omega), if_neg (by omega), if_pos ⟨Decidable.of_not_not (fun zz => hcq27 ((hsv w (by omega)).mpr zz)), hcq18⟩]; done) | (rw [if_neg (by omega), if_neg (by omega), if_neg (fun zz => (hsv w (by omega)).mp hcq27 zz.1), add_0]; done))
      · refine e_iload dX1_usersFrom_30 rfl ?_
        refine e_aload_n dX1_usersFrom_32 rfl ?_
        refine e_get dX1_usersFrom_33 fl_X1_23_4 hLo rfl ?_
        refine e_iconst (nI (3)) dX1_usersFrom_36 (by decide) ?_
        refine e_iload dX1_usersFrom_37 rfl ?_
        refine e_imulN dX1_usersFrom_39 ?_
        refine e_iconst (nI (1)) dX1_usersFrom_40 (by decide) ?_
        refine e_iaddN dX1_usersFrom_41 ?_
        refine e_ild ((3 * w) + 1) ((N (16 + 4 * w + 1 + 1))) dX1_usersFrom_42 hr2 rfl (by omega) (by decide) (he2 _ (by omega) _ (by omega)) ?_
        refine e_aload_n dX1_usersFrom_43 rfl ?_
        refine e_get dX1_usersFrom_44 fl_X1_23_4 hLo rfl ?_
        refine e_iconst (nI (3)) dX1_usersFrom_47 (by decide) ?_
        refine e_iload dX1_usersFrom_48 rfl ?_
        refine e_imulN dX1_usersFrom_50 ?_
        refine e_iconst (nI (2)) dX1_usersFrom_51 (by decide) ?_
        refine e_iaddN dX1_usersFrom_52 ?_
        refine e_ild ((3 * w) + 2) ((N (16 + 4 * w + 1 + 2))) dX1_usersFrom_53 hr2 rfl (by omega) (by decide) (he2 _ (by omega) _ (by omega)) ?_
        refine e_iadd dX1_usersFrom_54 ?_
        refine e_iadd dX1_usersFrom_55 ?_
        refine e_istore dX1_usersFrom_56 (by decide) ?_
        refine e_iincN (w + 1) dX1_usersFrom_58 rfl (by decide) (nI_add _ _) ?_
        refine e_goto 6 dX1_usersFrom_61 (by decide) ?_
        exact ih (w + 1) _ (by omega) (by rw [sumF, ← ha, termR]; first | (rw [if_neg (by omega), if_neg (by omega), if_neg (fun zz => zz.2 hcq18), add_0]; done) | (rw [if_neg (by omega), if_neg (by omega), if_pos ⟨Decidable.of_not_not (fun zz => hcq27 ((hsv w (by omega)).mpr zz)), hcq18⟩]; done) | (rw [if_neg (by omega), if_neg (by omega), if_neg (fun zz => (hsv w (by omega)).mp hcq27 zz.1), add_0]; done))
set_option maxRecDepth 20000 in
theorem u_X1 (D : En) {h : AH} {a : Nat} {N : Nat → Int32} (hL : LandAt h a N) (hI : IN N) {b : Nat} (k : Nat) (r : Int32) (v : Nat) (hv : v < 8) (sv : Int32) (hsv : ∀ w, w < nvN N → ((sv >>> (nI w &&& 31)) &&& nI 1 = 0 ↔ ¬ servR N k r v w)) (hk : k = 4 ∨ k = 6) : Sp D 0 mX1_usersFrom [.ref (b), .ref (a), .int (nI (v)), .int (sv)] h 0 0 (some (.int (sumF (termR N k r v) (nvN N)))) (fun h' => h' = h) := by
  obtain ⟨hLo, ⟨f1, hr1, he1⟩, ⟨f2, hr2, he2⟩, ⟨f3, hr3, he3⟩, ⟨T4, hr4, he4⟩, ⟨f5, hr5, he5⟩, ⟨f6, hr6, he6⟩, ⟨f7, hr7, he7⟩, ⟨R8, hr8, he8⟩, ⟨f9, hr9⟩, ⟨f10, hr10⟩, ⟨fG, hrG, heG⟩⟩ := id hL
  have hY := hI.1
  have hnv := hY.2.1
  have htc10 := hY.2.2.2.1
  intro post hp
  show Ev D 0 mX1_usersFrom 0 [some (.ref (b)), some (.ref (a)), some (.int (nI (v))), some (.int (sv)), none, none] [] h 0 0 post
  refine e_iconst (nI (0)) dX1_usersFrom_0 (by decide) ?_
  refine e_istore dX1_usersFrom_1 (by decide) ?_
  refine e_iconst (nI (0)) dX1_usersFrom_3 (by decide) ?_
  refine e_istore dX1_usersFrom_4 (by decide) ?_
  exact ul_X1 D hL hI k r v hv sv hsv hk hp (nvN N) 0 _ (by omega) rfl
set_option maxRecDepth 20000 in
theorem u_X9 (D : En) {h : AH} {a : Nat} {N : Nat → Int32} (hL : LandAt h a N) (hI : IN N) {b : Nat} (v : Nat) (hv : v < 8) (sv : Int32) : Sp D 1 mX9_usersFrom [.ref (b), .ref (a), .int (nI (v)), .int (sv)] h 0 0 (some (.int (allR N v))) (fun h' => h' = h) := by
  obtain ⟨hLo, ⟨f1, hr1, he1⟩, ⟨f2, hr2, he2⟩, ⟨f3, hr3, he3⟩, ⟨T4, hr4, he4⟩, ⟨f5, hr5, he5⟩, ⟨f6, hr6, he6⟩, ⟨f7, hr7, he7⟩, ⟨R8, hr8, he8⟩, ⟨f9, hr9⟩, ⟨f10, hr10⟩, ⟨fG, hrG, heG⟩⟩ := id hL
  have hY := hI.1
  have hnv := hY.2.1
  have htc10 := hY.2.2.2.1
  intro post hp
  show Ev D 1 mX9_usersFrom 0 [some (.ref (b)), some (.ref (a)), some (.int (nI (v))), some (.int (sv))] [] h 0 0 post
  refine e_aload_n dX9_usersFrom_0 rfl ?_
  refine e_iload_n dX9_usersFrom_1 rfl ?_
  refine c_V1iR (N := mX4_allOf) dX9_usersFrom_2 lv_X9_27 mo_X4_allOf hL.cn (Nat.le_of_ble_eq_true rfl) (Nat.le_of_ble_eq_true rfl) (by decide) (k_allOf D hL hI (v) (by omega)) ?_
  exact e_iret dX9_usersFrom_5 rfl (hp _ rfl)
set_option maxRecDepth 20000 in
theorem u_X3 (D : En) {h : AH} {a : Nat} {N : Nat → Int32} (hL : LandAt h a N) (hI : IN N) {b : Nat} {fs : List Value} (hb : h[b]? = some (.inr (3, fs))) (r : Int32) (v : Nat) (hv : v < 8) (sv : Int32) (hsv : ∀ w, w < nvN N → ((sv >>> (nI w &&& 31)) &&& nI 1 = 0 ↔ ¬ servR N 3 r v w)) : Sp D 2 mX3_usersFrom [.ref (b), .ref (a), .int (nI (v)), .int (sv)] h 0 0 (some (.int (usersR N (nvN N) 3 r v))) (fun h' => h' = h) := by
  obtain ⟨hLo, ⟨f1, hr1, he1⟩, ⟨f2, hr2, he2⟩, ⟨f3, hr3, he3⟩, ⟨T4, hr4, he4⟩, ⟨f5, hr5, he5⟩, ⟨f6, hr6, he6⟩, ⟨f7, hr7, he7⟩, ⟨R8, hr8, he8⟩, ⟨f9, hr9⟩, ⟨f10, hr10⟩, ⟨fG, hrG, heG⟩⟩ := id hL
  have hY := hI.1
  have hnv := hY.2.1
  have htc10 := hY.2.2.2.1
  intro post hp
  show Ev D 2 mX3_usersFrom 0 [some (.ref (b)), some (.ref (a)), some (.int (nI (v))), some (.int (sv))] [] h 0 0 post
  refine e_aload_n dX3_usersFrom_0 rfl ?_
  refine e_aload_n dX3_usersFrom_1 rfl ?_
  refine e_iload_n dX3_usersFrom_2 rfl ?_
  refine e_iload_n dX3_usersFrom_3 rfl ?_
  refine c_U3iR (N := mX8_usersFrom) dX3_usersFrom_4 lu_X3_17 mo_X8_usersFrom hb rfl (Nat.le_of_ble_eq_true rfl) (Nat.le_of_ble_eq_true rfl) (by decide) (u_X8 D hL hI 3 r v hv sv hsv (by omega)) ?_
  refine e_aload_n dX3_usersFrom_7 rfl ?_
  refine e_get dX3_usersFrom_8 fl_X3_21_4 hLo rfl ?_
  refine e_iconst (nI (3)) dX3_usersFrom_11 (by decide) ?_
  refine e_iload_n dX3_usersFrom_12 rfl ?_
  refine e_imulN dX3_usersFrom_13 ?_
  refine e_iconst (nI (1)) dX3_usersFrom_14 (by decide) ?_
  refine e_iaddN dX3_usersFrom_15 ?_
  refine e_ild ((3 * v) + 1) ((N (16 + 4 * v + 1 + 1))) dX3_usersFrom_16 hr2 rfl (by omega) (by decide) (he2 _ (by omega) _ (by omega)) ?_
  refine e_isub dX3_usersFrom_17 ?_
  refine e_top (usersR N (nvN N) 3 r v) ur_3 ?_
  exact e_iret dX3_usersFrom_18 rfl (hp _ rfl)
set_option maxRecDepth 20000 in
theorem u_X0 (D : En) {h : AH} {a : Nat} {N : Nat → Int32} (hL : LandAt h a N) (hI : IN N) {b : Nat} {fs : List Value} (hb : h[b]? = some (.inr (0, fs))) (r : Int32) (v : Nat) (hv : v < 8) (sv : Int32) (hsv : ∀ w, w < nvN N → ((sv >>> (nI w &&& 31)) &&& nI 1 = 0 ↔ ¬ servR N 6 r v w)) : Sp D 2 mX0_usersFrom [.ref (b), .ref (a), .int (nI (v)), .int (sv)] h 0 0 (some (.int (usersR N (nvN N) 6 r v))) (fun h' => h' = h) := by
  obtain ⟨hLo, ⟨f1, hr1, he1⟩, ⟨f2, hr2, he2⟩, ⟨f3, hr3, he3⟩, ⟨T4, hr4, he4⟩, ⟨f5, hr5, he5⟩, ⟨f6, hr6, he6⟩, ⟨f7, hr7, he7⟩, ⟨R8, hr8, he8⟩, ⟨f9, hr9⟩, ⟨f10, hr10⟩, ⟨fG, hrG, heG⟩⟩ := id hL
  have hY := hI.1
  have hnv := hY.2.1
  have htc10 := hY.2.2.2.1
  intro post hp
  show Ev D 2 mX0_usersFrom 0 [some (.ref (b)), some (.ref (a)), some (.int (nI (v))), some (.int (sv))] [] h 0 0 post
  refine e_aload_n dX0_usersFrom_0 rfl ?_
  refine e_aload_n dX0_usersFrom_1 rfl ?_
  refine e_iload_n dX0_usersFrom_2 rfl ?_
  refine e_iload_n dX0_usersFrom_3 rfl ?_
  refine c_U3iR (N := mX1_usersFrom) dX0_usersFrom_4 lu_X0_17 mo_X1_usersFrom hb rfl (Nat.le_of_ble_eq_true rfl) (Nat.le_of_ble_eq_true rfl) (by decide) (u_X1 D hL hI 6 r v hv sv hsv (by omega)) ?_
  refine e_aload_n dX0_usersFrom_7 rfl ?_
  refine e_iload_n dX0_usersFrom_8 rfl ?_
  refine c_V1iR (N := mX4_allOf) dX0_usersFrom_9 lv_X0_21 mo_X4_allOf hL.cn (Nat.le_of_ble_eq_true rfl) (Nat.le_of_ble_eq_true rfl) (by decide) (k_allOf D hL hI (v) (by omega)) ?_
  refine e_iadd dX0_usersFrom_12 ?_
  refine e_top (usersR N (nvN N) 6 r v) ur_6 ?_
  exact e_iret dX0_usersFrom_13 rfl (hp _ rfl)
theorem vu_X4_164 {D : En} {d : Nat} {M : Mt} {pc : Nat} {ls : List (Option Value)} {st : List Value} {h : AH} {nc ns : Nat} {post : Option Value → AH → Prop} {a b t v : Nat} {N : Nat → Int32} (hM : M.1.cls = RX4) (hd : decode M.2.1 pc = .ok (.invokevirtual 164, 3)) (hL : LandAt h a N) (hI : IN N) (hb : ThingAt h b t N) (hk : kdN N t < 7) (r : Int32) (hv : v < 8) {sv : Int32} (hsv : ∀ w, w < nvN N → ((sv >>> (nI w &&& 31)) &&& nI 1 = 0 ↔ ¬ servR N (kdN N t) r v w)) (hr : (st.map fun v => v.category).sum ≤ 8) (hdd : 3 < d) (kk : Ev D d M (pc + 3) ls (.int (usersR N (nvN N) (kdN N t) r v) :: st) h nc ns post) : Ev D d M pc ls (.int sv :: .int (nI v) :: .ref a :: .ref b :: st) h nc ns post := by
  obtain ⟨-, hb⟩ := hb
  rcases (show kdN N t = 0 ∨ kdN N t = 1 ∨ kdN N t = 2 ∨ kdN N t = 3 ∨ kdN N t = 4 ∨ kdN N t = 5 ∨ kdN N t = 6 by omega) with e9 | e9 | e9 | e9 | e9 | e9 | e9
  · rw [e9] at hb kk hsv
    exact c_V3iR (N := mX9_usersFrom) hd (by rw [hM]; exact lv_X4_164) mo_X9_usersFrom (Or.inl ⟨9, tgF N t, _, hb, rfl, rfl⟩) hr (Nat.le_of_ble_eq_true rfl) (Nat.lt_of_le_of_lt (by decide) hdd) (u_X9 D hL hI v hv sv) (by rw [ur_0] at kk; exact kk)
  · rw [e9] at hb kk hsv
    exact c_O3iR (x := yX9_usersFrom) (owner := "EmptyLand$Thing") (C := RX7) (N := mX7_usersFrom) hd (by rw [hM]; exact lo_X4_164_7) mo_X7_usersFrom (Or.inl ⟨7, tgF N t, _, hb, rfl, rfl⟩) hr (Nat.le_of_ble_eq_true rfl) (Nat.lt_of_le_of_lt (by decide) hdd) (u_X7 D hL hI 1 r v hv sv hsv (by omega)) (by rw [ur_s (by omega)] at kk; exact kk)
  · rw [e9] at hb kk hsv
    exact c_O3iR (x := yX9_usersFrom) (owner := "EmptyLand$Thing") (C := RX8) (N := mX8_usersFrom) hd (by rw [hM]; exact lo_X4_164_8) mo_X8_usersFrom (Or.inl ⟨8, tgF N t, _, hb, rfl, rfl⟩) hr (Nat.le_of_ble_eq_true rfl) (Nat.lt_of_le_of_lt (by decide) hdd) (u_X8 D hL hI 2 r v hv sv hsv (by omega)) (by rw [ur_s (by omega)] at kk; exact kk)
  · rw [e9] at hb kk hsv
    exact c_O3iR (x := yX9_usersFrom) (owner := "EmptyLand$Thing") (C := RX3) (N := mX3_usersFrom) hd (by rw [hM]; exact lo_X4_164_3) mo_X3_usersFrom (Or.inl ⟨3, tgF N t, _, hb, rfl, rfl⟩) hr (Nat.le_of_ble_eq_true rfl) (Nat.lt_of_le_of_lt (by decide) hdd) (u_X3 D hL hI hb r v hv sv hsv) kk
  · rw [e9] at hb kk hsv
    exact c_O3iR (x := yX9_usersFrom) (owner := "EmptyLand$Thing") (C := RX1) (N := mX1_usersFrom) hd (by rw [hM]; exact lo_X4_164_1) mo_X1_usersFrom (Or.inl ⟨1, tgF N t, _, hb, rfl, rfl⟩) hr (Nat.le_of_ble_eq_true rfl) (Nat.lt_of_le_of_lt (by decide) hdd) (u_X1 D hL hI 4 r v hv sv hsv (by omega)) (by rw [ur_s (by omega)] at kk; exact kk)
  · rw [e9] at hb kk hsv
    exact c_O3iR (x := yX9_usersFrom) (owner := "EmptyLand$Thing") (C := RX10) (N := mX7_usersFrom) hd (by rw [hM]; exact lo_X4_164_10) mo_X7_usersFrom (Or.inl ⟨10, tgF N t, _, hb, rfl, rfl⟩) hr (Nat.le_of_ble_eq_true rfl) (Nat.lt_of_le_of_lt (by decide) hdd) (u_X7 D hL hI 5 r v hv sv hsv (by omega)) (by rw [ur_s (by omega)] at kk; exact kk)
  · rw [e9] at hb kk hsv
    exact c_O3iR (x := yX9_usersFrom) (owner := "EmptyLand$Thing") (C := RX0) (N := mX0_usersFrom) hd (by rw [hM]; exact lo_X4_164_0) mo_X0_usersFrom (Or.inl ⟨0, tgF N t, _, hb, rfl, rfl⟩) hr (Nat.le_of_ble_eq_true rfl) (Nat.lt_of_le_of_lt (by decide) hdd) (u_X0 D hL hI hb r v hv sv hsv) kk
theorem vu_X11_164 {D : En} {d : Nat} {M : Mt} {pc : Nat} {ls : List (Option Value)} {st : List Value} {h : AH} {nc ns : Nat} {post : Option Value → AH → Prop} {a b t v : Nat} {N : Nat → Int32} (hM : M.1.cls = RX11) (hd : decode M.2.1 pc = .ok (.invokevirtual 164, 3)) (hL : LandAt h a N) (hI : IN N) (hb : ThingAt h b t N) (hk : kdN N t < 7) (r : Int32) (hv : v < 8) {sv : Int32} (hsv : ∀ w, w < nvN N → ((sv >>> (nI w &&& 31)) &&& nI 1 = 0 ↔ ¬ servR N (kdN N t) r v w)) (hr : (st.map fun v => v.category).sum ≤ 8) (hdd : 3 < d) (kk : Ev D d M (pc + 3) ls (.int (usersR N (nvN N) (kdN N t) r v) :: st) h nc ns post) : Ev D d M pc ls (.int sv :: .int (nI v) :: .ref a :: .ref b :: st) h nc ns post := by
  obtain ⟨-, hb⟩ := hb
  rcases (show kdN N t = 0 ∨ kdN N t = 1 ∨ kdN N t = 2 ∨ kdN N t = 3 ∨ kdN N t = 4 ∨ kdN N t = 5 ∨ kdN N t = 6 by omega) with e9 | e9 | e9 | e9 | e9 | e9 | e9
  · rw [e9] at hb kk hsv
    exact c_V3iR (N := mX9_usersFrom) hd (by rw [hM]; exact lv_X11_164) mo_X9_usersFrom (Or.inl ⟨9, tgF N t, _, hb, rfl, rfl⟩) hr (Nat.le_of_ble_eq_true rfl) (Nat.lt_of_le_of_lt (by decide) hdd) (u_X9 D hL hI v hv sv) (by rw [ur_0] at kk; exact kk)
  · rw [e9] at hb kk hsv
    exact c_O3iR (x := yX9_usersFrom) (owner := "EmptyLand$Thing") (C := RX7) (N := mX7_usersFrom) hd (by rw [hM]; exact lo_X11_164_7) mo_X7_usersFrom (Or.inl ⟨7, tgF N t, _, hb, rfl, rfl⟩) hr (Nat.le_of_ble_eq_true rfl) (Nat.lt_of_le_of_lt (by decide) hdd) (u_X7 D hL hI 1 r v hv sv hsv (by omega)) (by rw [ur_s (by omega)] at kk; exact kk)
  · rw [e9] at hb kk hsv
    exact c_O3iR (x := yX9_usersFrom) (owner := "EmptyLand$Thing") (C := RX8) (N := mX8_usersFrom) hd (by rw [hM]; exact lo_X11_164_8) mo_X8_usersFrom (Or.inl ⟨8, tgF N t, _, hb, rfl, rfl⟩) hr (Nat.le_of_ble_eq_true rfl) (Nat.lt_of_le_of_lt (by decide) hdd) (u_X8 D hL hI 2 r v hv sv hsv (by omega)) (by rw [ur_s (by omega)] at kk; exact kk)
  · rw [e9] at hb kk hsv
    exact c_O3iR (x := yX9_usersFrom) (owner := "EmptyLand$Thing") (C := RX3) (N := mX3_usersFrom) hd (by rw [hM]; exact lo_X11_164_3) mo_X3_usersFrom (Or.inl ⟨3, tgF N t, _, hb, rfl, rfl⟩) hr (Nat.le_of_ble_eq_true rfl) (Nat.lt_of_le_of_lt (by decide) hdd) (u_X3 D hL hI hb r v hv sv hsv) kk
  · rw [e9] at hb kk hsv
    exact c_O3iR (x := yX9_usersFrom) (owner := "EmptyLand$Thing") (C := RX1) (N := mX1_usersFrom) hd (by rw [hM]; exact lo_X11_164_1) mo_X1_usersFrom (Or.inl ⟨1, tgF N t, _, hb, rfl, rfl⟩) hr (Nat.le_of_ble_eq_true rfl) (Nat.lt_of_le_of_lt (by decide) hdd) (u_X1 D hL hI 4 r v hv sv hsv (by omega)) (by rw [ur_s (by omega)] at kk; exact kk)
  · rw [e9] at hb kk hsv
    exact c_O3iR (x := yX9_usersFrom) (owner := "EmptyLand$Thing") (C := RX10) (N := mX7_usersFrom) hd (by rw [hM]; exact lo_X11_164_10) mo_X7_usersFrom (Or.inl ⟨10, tgF N t, _, hb, rfl, rfl⟩) hr (Nat.le_of_ble_eq_true rfl) (Nat.lt_of_le_of_lt (by decide) hdd) (u_X7 D hL hI 5 r v hv sv hsv (by omega)) (by rw [ur_s (by omega)] at kk; exact kk)
  · rw [e9] at hb kk hsv
    exact c_O3iR (x := yX9_usersFrom) (owner := "EmptyLand$Thing") (C := RX0) (N := mX0_usersFrom) hd (by rw [hM]; exact lo_X11_164_0) mo_X0_usersFrom (Or.inl ⟨0, tgF N t, _, hb, rfl, rfl⟩) hr (Nat.le_of_ble_eq_true rfl) (Nat.lt_of_le_of_lt (by decide) hdd) (u_X0 D hL hI hb r v hv sv hsv) kk
