/-! voices: the trace is a row and how many stand in it -/
abbrev TS : Type := (Nat → Int32) × Nat
def bgV (b : Int32) (t : TS) : TS := if t.2 < 40 then (upd t.1 t.2 b, t.2 + 1) else t
def hdB (sp x : Int32) (t : TS) : Int32 × TS := (x + sp, bgV (nI 10) t)
def hdS (sp x : Int32) (t : TS) : Int32 × TS := ((hdB sp x (bgV (nI 30) t)).1 * nI 3, (hdB sp x (bgV (nI 30) t)).2)
def hdF (k : Nat) (sp x : Int32) (t : TS) : Int32 × TS := if k = 2 then hdS sp x t else if k = 3 then hdS sp (x + nI 1) (bgV (nI 41) t) else if k = 5 then ((hdB sp x (bgV (nI 60) t)).1 ^^^ sp, (hdB sp x (bgV (nI 60) t)).2) else hdB sp x t
def flB (ls x : Int32) (t : TS) : Int32 × TS := (x - ls, bgV (nI 12) t)
def flF (k : Nat) (ls x : Int32) (t : TS) : Int32 × TS := if k = 3 then (-(flB ls x (bgV (nI 40) t)).1, (flB ls x (bgV (nI 40) t)).2) else flB ls x t
def rsB (K : Nat) (sp x : Int32) (t : TS) : Int32 × TS := ((hdF K sp x (bgV (nI 11) t)).1 * nI 2, (hdF K sp x (bgV (nI 11) t)).2)
def rsS (K : Nat) (sp ls x : Int32) (t : TS) : Int32 × TS := ((rsB K sp x (bgV (nI 20) t)).1 - (flF K ls (nI 1) (rsB K sp x (bgV (nI 20) t)).2).1, (flF K ls (nI 1) (rsB K sp x (bgV (nI 20) t)).2).2)
def rsF (k K : Nat) (sp ls x : Int32) (t : TS) : Int32 × TS := if k = 1 then rsS K sp ls x t else if k = 5 then ((rsS K sp ls x (bgV (nI 61) t)).1 + nI 5, (rsS K sp ls x (bgV (nI 61) t)).2) else rsB K sp x t
def tlB (K : Nat) (sp ls x : Int32) (t : TS) : Int32 × TS := ((rsF K K sp ls x (bgV (nI 13) t)).1 ^^^ (flF K ls x (rsF K K sp ls x (bgV (nI 13) t)).2).1, (flF K ls x (rsF K K sp ls x (bgV (nI 13) t)).2).2)
def tlS (K : Nat) (sp ls x : Int32) (t : TS) : Int32 × TS := ((tlB K sp ls x (bgV (nI 50) t)).1 - (hdF K sp (nI 2) (tlB K sp ls x (bgV (nI 50) t)).2).1, (hdF K sp (nI 2) (tlB K sp ls x (bgV (nI 50) t)).2).2)
def tlF (k K : Nat) (sp ls x : Int32) (t : TS) : Int32 × TS := if k = 4 then tlS K sp ls x t else if k = 6 then ((rsF K K sp ls x (bgV (nI 70) t)).1 - (tlS K sp ls x (rsF K K sp ls x (bgV (nI 70) t)).2).1, (tlS K sp ls x (rsF K K sp ls x (bgV (nI 70) t)).2).2) else tlB K sp ls x t
def vcF (act k K : Nat) (sp ls x : Int32) (t : TS) : Int32 × TS := if act = 0 then hdF k sp x t else if act = 1 then rsF k K sp ls x t else if act = 2 then flF k ls x t else tlF k K sp ls x t
def TA (h0 h : AH) (N : Nat → Int32) (σ0 : Nat → Nat → Int32) (τ0 : Nat → Int32) (sp : Nat) (t : TS) : Prop := ∃ τ, RefAt h N (va_up σ0 13 t.1) τ ∧ FrR h0 h ∧ τ 6 = nI t.2 ∧ t.2 ≤ 40 ∧ τ 7 = nI sp ∧ ∀ i, i < 6 → τ i = τ0 i
set_option maxRecDepth 20000 in
theorem s_began (D : En) {h0 h : AH} {N : Nat → Int32} {σ0 : Nat → Nat → Int32} {τ0 : Nat → Int32} {sp : Nat} {t : TS} (b : Int32) (hA : TA h0 h N σ0 τ0 sp t) : Sp D 0 mX12_began [.ref (82), .int (b)] h 0 0 (none) (fun h' => TA h0 h' N σ0 τ0 sp (bgV b t)) := by
  obtain ⟨τ, hR, hF, h6, h40, h7, hE⟩ := hA
  intro post hp
  show Ev D 0 mX12_began 0 [some (.ref (82)), some (.int (b))] [] h 0 0 post
  refine e_aload_n dX12_began_0 rfl ?_
  refine e_get dX12_began_1 fl_X12_299_12 hR.1 rfl ?_
  refine e_top (nI ((t).2)) (h6) ?_
  refine e_bipush (nI (40)) dX12_began_4 (by decide) ?_
  refine e_icmp_geN 29 dX12_began_6 (by decide) (by omega) (by omega) (fun hcq6 => ?_) (fun hcq6 => ?_)
  · first
      | exact e_vret dX12_began_29 rfl (hp _ (by unfold bgV; rw [if_neg (Nat.not_lt.mpr hcq6)]; exact ⟨τ, hR, hF, h6, h40, h7, hE⟩))
      | exact e_vret dX12_began_29 rfl (hp _ (by unfold bgV; rw [if_pos hcq6]; exact ⟨_, hR, hF, pk_us, hcq6, (pk_un (by decide)).trans h7, fun i hi => (pk_un (by omega)).trans (hE i hi)⟩))
  · refine e_aload_n dX12_began_9 rfl ?_
    refine e_get dX12_began_10 fl_X12_60_12 hR.1 rfl ?_
    refine e_aload_n dX12_began_13 rfl ?_
    refine e_get dX12_began_14 fl_X12_299_12 hR.1 rfl ?_
    refine e_top (nI ((t).2)) (h6) ?_
    refine e_iload_n dX12_began_17 rfl ?_
    refine r_st 13 ((t).2) dX12_began_18 hR hF rfl (by decide) rfl (by show _ < 40; omega) (fun h hR hF => ?_)
    rw [va_upUp, va_upS] at hR
    refine e_aload_n dX12_began_19 rfl ?_
    refine e_dup dX12_began_20 rfl ?_
    refine e_get dX12_began_21 fl_X12_299_12 hR.1 rfl ?_
    refine e_top (nI ((t).2)) (h6) ?_
    refine e_iconst (nI (1)) dX12_began_24 (by decide) ?_
    refine e_iaddN dX12_began_25 ?_
    refine r_put (upd τ 6 (nI (((t).2) + 1))) dX12_began_26 fl_X12_299_12 hR hF rfl (by decide) rfl rfl rfl (fun h hR hF => ?_)
    first
      | exact e_vret dX12_began_29 rfl (hp _ (by unfold bgV; rw [if_neg (Nat.not_lt.mpr hcq6)]; exact ⟨τ, hR, hF, h6, h40, h7, hE⟩))
      | exact e_vret dX12_began_29 rfl (hp _ (by unfold bgV; rw [if_pos hcq6]; exact ⟨_, hR, hF, pk_us, hcq6, (pk_un (by decide)).trans h7, fun i hi => (pk_un (by omega)).trans (hE i hi)⟩))
set_option maxRecDepth 20000 in
theorem s_own00 (D : En) {h : AH} : Sp D 0 mX12_hasOwn [.int (nI 0), .int (nI 0)] h 0 0 (some (.int (nI 1))) (fun h' => h' = h) := by
  intro post hp
  show Ev D 0 mX12_hasOwn 0 [some (.int (nI (0))), some (.int (nI (0)))] [] h 0 0 post
  refine e_iload_n dX12_hasOwn_0 rfl ?_
  refine e_tableIn (off := 39) 40 dX12_hasOwn_1 (by decide) (by decide) (by decide) (by decide) ?_
  refine e_iconst (nI (1)) dX12_hasOwn_40 (by decide) ?_
  exact e_zret dX12_hasOwn_41 rfl (by decide) (hp _ rfl)
set_option maxRecDepth 20000 in
theorem s_own01 (D : En) {h : AH} : Sp D 0 mX12_hasOwn [.int (nI 0), .int (nI 1)] h 0 0 (some (.int (nI 1))) (fun h' => h' = h) := by
  intro post hp
  show Ev D 0 mX12_hasOwn 0 [some (.int (nI (0))), some (.int (nI (1)))] [] h 0 0 post
  refine e_iload_n dX12_hasOwn_0 rfl ?_
  refine e_tableIn (off := 39) 40 dX12_hasOwn_1 (by decide) (by decide) (by decide) (by decide) ?_
  refine e_iconst (nI (1)) dX12_hasOwn_40 (by decide) ?_
  exact e_zret dX12_hasOwn_41 rfl (by decide) (hp _ rfl)
set_option maxRecDepth 20000 in
theorem s_own02 (D : En) {h : AH} : Sp D 0 mX12_hasOwn [.int (nI 0), .int (nI 2)] h 0 0 (some (.int (nI 1))) (fun h' => h' = h) := by
  intro post hp
  show Ev D 0 mX12_hasOwn 0 [some (.int (nI (0))), some (.int (nI (2)))] [] h 0 0 post
  refine e_iload_n dX12_hasOwn_0 rfl ?_
  refine e_tableIn (off := 39) 40 dX12_hasOwn_1 (by decide) (by decide) (by decide) (by decide) ?_
  refine e_iconst (nI (1)) dX12_hasOwn_40 (by decide) ?_
  exact e_zret dX12_hasOwn_41 rfl (by decide) (hp _ rfl)
set_option maxRecDepth 20000 in
theorem s_own03 (D : En) {h : AH} : Sp D 0 mX12_hasOwn [.int (nI 0), .int (nI 3)] h 0 0 (some (.int (nI 1))) (fun h' => h' = h) := by
  intro post hp
  show Ev D 0 mX12_hasOwn 0 [some (.int (nI (0))), some (.int (nI (3)))] [] h 0 0 post
  refine e_iload_n dX12_hasOwn_0 rfl ?_
  refine e_tableIn (off := 39) 40 dX12_hasOwn_1 (by decide) (by decide) (by decide) (by decide) ?_
  refine e_iconst (nI (1)) dX12_hasOwn_40 (by decide) ?_
  exact e_zret dX12_hasOwn_41 rfl (by decide) (hp _ rfl)
set_option maxRecDepth 20000 in
theorem s_own10 (D : En) {h : AH} : Sp D 0 mX12_hasOwn [.int (nI 1), .int (nI 0)] h 0 0 (some (.int (nI 0))) (fun h' => h' = h) := by
  intro post hp
  show Ev D 0 mX12_hasOwn 0 [some (.int (nI (1))), some (.int (nI (0)))] [] h 0 0 post
  refine e_iload_n dX12_hasOwn_0 rfl ?_
  refine e_tableIn (off := 41) 42 dX12_hasOwn_1 (by decide) (by decide) (by decide) (by decide) ?_
  refine e_iload_n dX12_hasOwn_42 rfl ?_
  refine e_iconst (nI (1)) dX12_hasOwn_43 (by decide) ?_
  refine e_icmp_neN 51 dX12_hasOwn_44 (by decide) (by omega) (by omega) (fun hcq44 => ?_) (fun hcq44 => absurd hcq44 (by decide))
  refine e_iconst (nI (0)) dX12_hasOwn_51 (by decide) ?_
  exact e_zret dX12_hasOwn_52 rfl (by decide) (hp _ rfl)
set_option maxRecDepth 20000 in
theorem s_own11 (D : En) {h : AH} : Sp D 0 mX12_hasOwn [.int (nI 1), .int (nI 1)] h 0 0 (some (.int (nI 1))) (fun h' => h' = h) := by
  intro post hp
  show Ev D 0 mX12_hasOwn 0 [some (.int (nI (1))), some (.int (nI (1)))] [] h 0 0 post
  refine e_iload_n dX12_hasOwn_0 rfl ?_
  refine e_tableIn (off := 41) 42 dX12_hasOwn_1 (by decide) (by decide) (by decide) (by decide) ?_
  refine e_iload_n dX12_hasOwn_42 rfl ?_
  refine e_iconst (nI (1)) dX12_hasOwn_43 (by decide) ?_
  refine e_icmp_neN 51 dX12_hasOwn_44 (by decide) (by omega) (by omega) (fun hcq44 => absurd hcq44 (by decide)) (fun hcq44 => ?_)
  refine e_iconst (nI (1)) dX12_hasOwn_47 (by decide) ?_
  refine e_goto 52 dX12_hasOwn_48 (by decide) ?_
  exact e_zret dX12_hasOwn_52 rfl (by decide) (hp _ rfl)
set_option maxRecDepth 20000 in
theorem s_own12 (D : En) {h : AH} : Sp D 0 mX12_hasOwn [.int (nI 1), .int (nI 2)] h 0 0 (some (.int (nI 0))) (fun h' => h' = h) := by
  intro post hp
  show Ev D 0 mX12_hasOwn 0 [some (.int (nI (1))), some (.int (nI (2)))] [] h 0 0 post
  refine e_iload_n dX12_hasOwn_0 rfl ?_
  refine e_tableIn (off := 41) 42 dX12_hasOwn_1 (by decide) (by decide) (by decide) (by decide) ?_
  refine e_iload_n dX12_hasOwn_42 rfl ?_
  refine e_iconst (nI (1)) dX12_hasOwn_43 (by decide) ?_
  refine e_icmp_neN 51 dX12_hasOwn_44 (by decide) (by omega) (by omega) (fun hcq44 => ?_) (fun hcq44 => absurd hcq44 (by decide))
  refine e_iconst (nI (0)) dX12_hasOwn_51 (by decide) ?_
  exact e_zret dX12_hasOwn_52 rfl (by decide) (hp _ rfl)
set_option maxRecDepth 20000 in
theorem s_own13 (D : En) {h : AH} : Sp D 0 mX12_hasOwn [.int (nI 1), .int (nI 3)] h 0 0 (some (.int (nI 0))) (fun h' => h' = h) := by
  intro post hp
  show Ev D 0 mX12_hasOwn 0 [some (.int (nI (1))), some (.int (nI (3)))] [] h 0 0 post
  refine e_iload_n dX12_hasOwn_0 rfl ?_
  refine e_tableIn (off := 41) 42 dX12_hasOwn_1 (by decide) (by decide) (by decide) (by decide) ?_
  refine e_iload_n dX12_hasOwn_42 rfl ?_
  refine e_iconst (nI (1)) dX12_hasOwn_43 (by decide) ?_
  refine e_icmp_neN 51 dX12_hasOwn_44 (by decide) (by omega) (by omega) (fun hcq44 => ?_) (fun hcq44 => absurd hcq44 (by decide))
  refine e_iconst (nI (0)) dX12_hasOwn_51 (by decide) ?_
  exact e_zret dX12_hasOwn_52 rfl (by decide) (hp _ rfl)
set_option maxRecDepth 20000 in
theorem s_own20 (D : En) {h : AH} : Sp D 0 mX12_hasOwn [.int (nI 2), .int (nI 0)] h 0 0 (some (.int (nI 1))) (fun h' => h' = h) := by
  intro post hp
  show Ev D 0 mX12_hasOwn 0 [some (.int (nI (2))), some (.int (nI (0)))] [] h 0 0 post
  refine e_iload_n dX12_hasOwn_0 rfl ?_
  refine e_tableIn (off := 52) 53 dX12_hasOwn_1 (by decide) (by decide) (by decide) (by decide) ?_
  refine e_iload_n dX12_hasOwn_53 rfl ?_
  refine e_if_neN 61 dX12_hasOwn_54 (by decide) (by omega) (fun hcq54 => absurd hcq54 (by decide)) (fun hcq54 => ?_)
  refine e_iconst (nI (1)) dX12_hasOwn_57 (by decide) ?_
  refine e_goto 62 dX12_hasOwn_58 (by decide) ?_
  exact e_zret dX12_hasOwn_62 rfl (by decide) (hp _ rfl)
set_option maxRecDepth 20000 in
theorem s_own21 (D : En) {h : AH} : Sp D 0 mX12_hasOwn [.int (nI 2), .int (nI 1)] h 0 0 (some (.int (nI 0))) (fun h' => h' = h) := by
  intro post hp
  show Ev D 0 mX12_hasOwn 0 [some (.int (nI (2))), some (.int (nI (1)))] [] h 0 0 post
  refine e_iload_n dX12_hasOwn_0 rfl ?_
  refine e_tableIn (off := 52) 53 dX12_hasOwn_1 (by decide) (by decide) (by decide) (by decide) ?_
  refine e_iload_n dX12_hasOwn_53 rfl ?_
  refine e_if_neN 61 dX12_hasOwn_54 (by decide) (by omega) (fun hcq54 => ?_) (fun hcq54 => absurd hcq54 (by decide))
  refine e_iconst (nI (0)) dX12_hasOwn_61 (by decide) ?_
  exact e_zret dX12_hasOwn_62 rfl (by decide) (hp _ rfl)
set_option maxRecDepth 20000 in
theorem s_own22 (D : En) {h : AH} : Sp D 0 mX12_hasOwn [.int (nI 2), .int (nI 2)] h 0 0 (some (.int (nI 0))) (fun h' => h' = h) := by
  intro post hp
  show Ev D 0 mX12_hasOwn 0 [some (.int (nI (2))), some (.int (nI (2)))] [] h 0 0 post
  refine e_iload_n dX12_hasOwn_0 rfl ?_
  refine e_tableIn (off := 52) 53 dX12_hasOwn_1 (by decide) (by decide) (by decide) (by decide) ?_
  refine e_iload_n dX12_hasOwn_53 rfl ?_
  refine e_if_neN 61 dX12_hasOwn_54 (by decide) (by omega) (fun hcq54 => ?_) (fun hcq54 => absurd hcq54 (by decide))
  refine e_iconst (nI (0)) dX12_hasOwn_61 (by decide) ?_
  exact e_zret dX12_hasOwn_62 rfl (by decide) (hp _ rfl)
set_option maxRecDepth 20000 in
theorem s_own23 (D : En) {h : AH} : Sp D 0 mX12_hasOwn [.int (nI 2), .int (nI 3)] h 0 0 (some (.int (nI 0))) (fun h' => h' = h) := by
  intro post hp
  show Ev D 0 mX12_hasOwn 0 [some (.int (nI (2))), some (.int (nI (3)))] [] h 0 0 post
  refine e_iload_n dX12_hasOwn_0 rfl ?_
  refine e_tableIn (off := 52) 53 dX12_hasOwn_1 (by decide) (by decide) (by decide) (by decide) ?_
  refine e_iload_n dX12_hasOwn_53 rfl ?_
  refine e_if_neN 61 dX12_hasOwn_54 (by decide) (by omega) (fun hcq54 => ?_) (fun hcq54 => absurd hcq54 (by decide))
  refine e_iconst (nI (0)) dX12_hasOwn_61 (by decide) ?_
  exact e_zret dX12_hasOwn_62 rfl (by decide) (hp _ rfl)
set_option maxRecDepth 20000 in
theorem s_own30 (D : En) {h : AH} : Sp D 0 mX12_hasOwn [.int (nI 3), .int (nI 0)] h 0 0 (some (.int (nI 1))) (fun h' => h' = h) := by
  intro post hp
  show Ev D 0 mX12_hasOwn 0 [some (.int (nI (3))), some (.int (nI (0)))] [] h 0 0 post
  refine e_iload_n dX12_hasOwn_0 rfl ?_
  refine e_tableIn (off := 62) 63 dX12_hasOwn_1 (by decide) (by decide) (by decide) (by decide) ?_
  refine e_iload_n dX12_hasOwn_63 rfl ?_
  refine e_if_eqN 72 dX12_hasOwn_64 (by decide) (by omega) (fun hcq64 => ?_) (fun hcq64 => absurd hcq64 (by decide))
  refine e_iconst (nI (1)) dX12_hasOwn_72 (by decide) ?_
  refine e_goto 77 dX12_hasOwn_73 (by decide) ?_
  exact e_zret dX12_hasOwn_77 rfl (by decide) (hp _ rfl)
set_option maxRecDepth 20000 in
theorem s_own31 (D : En) {h : AH} : Sp D 0 mX12_hasOwn [.int (nI 3), .int (nI 1)] h 0 0 (some (.int (nI 0))) (fun h' => h' = h) := by
  intro post hp
  show Ev D 0 mX12_hasOwn 0 [some (.int (nI (3))), some (.int (nI (1)))] [] h 0 0 post
  refine e_iload_n dX12_hasOwn_0 rfl ?_
  refine e_tableIn (off := 62) 63 dX12_hasOwn_1 (by decide) (by decide) (by decide) (by decide) ?_
  refine e_iload_n dX12_hasOwn_63 rfl ?_
  refine e_if_eqN 72 dX12_hasOwn_64 (by decide) (by omega) (fun hcq64 => absurd hcq64 (by decide)) (fun hcq64 => ?_)
  refine e_iload_n dX12_hasOwn_67 rfl ?_
  refine e_iconst (nI (2)) dX12_hasOwn_68 (by decide) ?_
  refine e_icmp_neN 76 dX12_hasOwn_69 (by decide) (by omega) (by omega) (fun hcq69 => ?_) (fun hcq69 => absurd hcq69 (by decide))
  refine e_iconst (nI (0)) dX12_hasOwn_76 (by decide) ?_
  exact e_zret dX12_hasOwn_77 rfl (by decide) (hp _ rfl)
set_option maxRecDepth 20000 in
theorem s_own32 (D : En) {h : AH} : Sp D 0 mX12_hasOwn [.int (nI 3), .int (nI 2)] h 0 0 (some (.int (nI 1))) (fun h' => h' = h) := by
  intro post hp
  show Ev D 0 mX12_hasOwn 0 [some (.int (nI (3))), some (.int (nI (2)))] [] h 0 0 post
  refine e_iload_n dX12_hasOwn_0 rfl ?_
  refine e_tableIn (off := 62) 63 dX12_hasOwn_1 (by decide) (by decide) (by decide) (by decide) ?_
  refine e_iload_n dX12_hasOwn_63 rfl ?_
  refine e_if_eqN 72 dX12_hasOwn_64 (by decide) (by omega) (fun hcq64 => absurd hcq64 (by decide)) (fun hcq64 => ?_)
  refine e_iload_n dX12_hasOwn_67 rfl ?_
  refine e_iconst (nI (2)) dX12_hasOwn_68 (by decide) ?_
  refine e_icmp_neN 76 dX12_hasOwn_69 (by decide) (by omega) (by omega) (fun hcq69 => absurd hcq69 (by decide)) (fun hcq69 => ?_)
  refine e_iconst (nI (1)) dX12_hasOwn_72 (by decide) ?_
  refine e_goto 77 dX12_hasOwn_73 (by decide) ?_
  exact e_zret dX12_hasOwn_77 rfl (by decide) (hp _ rfl)
set_option maxRecDepth 20000 in
theorem s_own33 (D : En) {h : AH} : Sp D 0 mX12_hasOwn [.int (nI 3), .int (nI 3)] h 0 0 (some (.int (nI 0))) (fun h' => h' = h) := by
  intro post hp
  show Ev D 0 mX12_hasOwn 0 [some (.int (nI (3))), some (.int (nI (3)))] [] h 0 0 post
  refine e_iload_n dX12_hasOwn_0 rfl ?_
  refine e_tableIn (off := 62) 63 dX12_hasOwn_1 (by decide) (by decide) (by decide) (by decide) ?_
  refine e_iload_n dX12_hasOwn_63 rfl ?_
  refine e_if_eqN 72 dX12_hasOwn_64 (by decide) (by omega) (fun hcq64 => absurd hcq64 (by decide)) (fun hcq64 => ?_)
  refine e_iload_n dX12_hasOwn_67 rfl ?_
  refine e_iconst (nI (2)) dX12_hasOwn_68 (by decide) ?_
  refine e_icmp_neN 76 dX12_hasOwn_69 (by decide) (by omega) (by omega) (fun hcq69 => ?_) (fun hcq69 => absurd hcq69 (by decide))
  refine e_iconst (nI (0)) dX12_hasOwn_76 (by decide) ?_
  exact e_zret dX12_hasOwn_77 rfl (by decide) (hp _ rfl)
set_option maxRecDepth 20000 in
theorem s_own40 (D : En) {h : AH} : Sp D 0 mX12_hasOwn [.int (nI 4), .int (nI 0)] h 0 0 (some (.int (nI 0))) (fun h' => h' = h) := by
  intro post hp
  show Ev D 0 mX12_hasOwn 0 [some (.int (nI (4))), some (.int (nI (0)))] [] h 0 0 post
  refine e_iload_n dX12_hasOwn_0 rfl ?_
  refine e_tableIn (off := 88) 89 dX12_hasOwn_1 (by decide) (by decide) (by decide) (by decide) ?_
  refine e_iload_n dX12_hasOwn_89 rfl ?_
  refine e_iconst (nI (3)) dX12_hasOwn_90 (by decide) ?_
  refine e_icmp_neN 98 dX12_hasOwn_91 (by decide) (by omega) (by omega) (fun hcq91 => ?_) (fun hcq91 => absurd hcq91 (by decide))
  refine e_iconst (nI (0)) dX12_hasOwn_98 (by decide) ?_
  exact e_zret dX12_hasOwn_99 rfl (by decide) (hp _ rfl)
set_option maxRecDepth 20000 in
theorem s_own41 (D : En) {h : AH} : Sp D 0 mX12_hasOwn [.int (nI 4), .int (nI 1)] h 0 0 (some (.int (nI 0))) (fun h' => h' = h) := by
  intro post hp
  show Ev D 0 mX12_hasOwn 0 [some (.int (nI (4))), some (.int (nI (1)))] [] h 0 0 post
  refine e_iload_n dX12_hasOwn_0 rfl ?_
  refine e_tableIn (off := 88) 89 dX12_hasOwn_1 (by decide) (by decide) (by decide) (by decide) ?_
  refine e_iload_n dX12_hasOwn_89 rfl ?_
  refine e_iconst (nI (3)) dX12_hasOwn_90 (by decide) ?_
  refine e_icmp_neN 98 dX12_hasOwn_91 (by decide) (by omega) (by omega) (fun hcq91 => ?_) (fun hcq91 => absurd hcq91 (by decide))
  refine e_iconst (nI (0)) dX12_hasOwn_98 (by decide) ?_
  exact e_zret dX12_hasOwn_99 rfl (by decide) (hp _ rfl)
set_option maxRecDepth 20000 in
theorem s_own42 (D : En) {h : AH} : Sp D 0 mX12_hasOwn [.int (nI 4), .int (nI 2)] h 0 0 (some (.int (nI 0))) (fun h' => h' = h) := by
  intro post hp
  show Ev D 0 mX12_hasOwn 0 [some (.int (nI (4))), some (.int (nI (2)))] [] h 0 0 post
  refine e_iload_n dX12_hasOwn_0 rfl ?_
  refine e_tableIn (off := 88) 89 dX12_hasOwn_1 (by decide) (by decide) (by decide) (by decide) ?_
  refine e_iload_n dX12_hasOwn_89 rfl ?_
  refine e_iconst (nI (3)) dX12_hasOwn_90 (by decide) ?_
  refine e_icmp_neN 98 dX12_hasOwn_91 (by decide) (by omega) (by omega) (fun hcq91 => ?_) (fun hcq91 => absurd hcq91 (by decide))
  refine e_iconst (nI (0)) dX12_hasOwn_98 (by decide) ?_
  exact e_zret dX12_hasOwn_99 rfl (by decide) (hp _ rfl)
set_option maxRecDepth 20000 in
theorem s_own43 (D : En) {h : AH} : Sp D 0 mX12_hasOwn [.int (nI 4), .int (nI 3)] h 0 0 (some (.int (nI 1))) (fun h' => h' = h) := by
  intro post hp
  show Ev D 0 mX12_hasOwn 0 [some (.int (nI (4))), some (.int (nI (3)))] [] h 0 0 post
  refine e_iload_n dX12_hasOwn_0 rfl ?_
  refine e_tableIn (off := 88) 89 dX12_hasOwn_1 (by decide) (by decide) (by decide) (by decide) ?_
  refine e_iload_n dX12_hasOwn_89 rfl ?_
  refine e_iconst (nI (3)) dX12_hasOwn_90 (by decide) ?_
  refine e_icmp_neN 98 dX12_hasOwn_91 (by decide) (by omega) (by omega) (fun hcq91 => absurd hcq91 (by decide)) (fun hcq91 => ?_)
  refine e_iconst (nI (1)) dX12_hasOwn_94 (by decide) ?_
  refine e_goto 99 dX12_hasOwn_95 (by decide) ?_
  exact e_zret dX12_hasOwn_99 rfl (by decide) (hp _ rfl)
set_option maxRecDepth 20000 in
theorem s_own50 (D : En) {h : AH} : Sp D 0 mX12_hasOwn [.int (nI 5), .int (nI 0)] h 0 0 (some (.int (nI 1))) (fun h' => h' = h) := by
  intro post hp
  show Ev D 0 mX12_hasOwn 0 [some (.int (nI (5))), some (.int (nI (0)))] [] h 0 0 post
  refine e_iload_n dX12_hasOwn_0 rfl ?_
  refine e_tableIn (off := 77) 78 dX12_hasOwn_1 (by decide) (by decide) (by decide) (by decide) ?_
  refine e_iload_n dX12_hasOwn_78 rfl ?_
  refine e_iconst (nI (2)) dX12_hasOwn_79 (by decide) ?_
  refine e_icmp_geN 87 dX12_hasOwn_80 (by decide) (by omega) (by omega) (fun hcq80 => absurd hcq80 (by decide)) (fun hcq80 => ?_)
  refine e_iconst (nI (1)) dX12_hasOwn_83 (by decide) ?_
  refine e_goto 88 dX12_hasOwn_84 (by decide) ?_
  exact e_zret dX12_hasOwn_88 rfl (by decide) (hp _ rfl)
set_option maxRecDepth 20000 in
theorem s_own51 (D : En) {h : AH} : Sp D 0 mX12_hasOwn [.int (nI 5), .int (nI 1)] h 0 0 (some (.int (nI 1))) (fun h' => h' = h) := by
  intro post hp
  show Ev D 0 mX12_hasOwn 0 [some (.int (nI (5))), some (.int (nI (1)))] [] h 0 0 post
  refine e_iload_n dX12_hasOwn_0 rfl ?_
  refine e_tableIn (off := 77) 78 dX12_hasOwn_1 (by decide) (by decide) (by decide) (by decide) ?_
  refine e_iload_n dX12_hasOwn_78 rfl ?_
  refine e_iconst (nI (2)) dX12_hasOwn_79 (by decide) ?_
  refine e_icmp_geN 87 dX12_hasOwn_80 (by decide) (by omega) (by omega) (fun hcq80 => absurd hcq80 (by decide)) (fun hcq80 => ?_)
  refine e_iconst (nI (1)) dX12_hasOwn_83 (by decide) ?_
  refine e_goto 88 dX12_hasOwn_84 (by decide) ?_
  exact e_zret dX12_hasOwn_88 rfl (by decide) (hp _ rfl)
set_option maxRecDepth 20000 in
theorem s_own52 (D : En) {h : AH} : Sp D 0 mX12_hasOwn [.int (nI 5), .int (nI 2)] h 0 0 (some (.int (nI 0))) (fun h' => h' = h) := by
  intro post hp
  show Ev D 0 mX12_hasOwn 0 [some (.int (nI (5))), some (.int (nI (2)))] [] h 0 0 post
  refine e_iload_n dX12_hasOwn_0 rfl ?_
  refine e_tableIn (off := 77) 78 dX12_hasOwn_1 (by decide) (by decide) (by decide) (by decide) ?_
  refine e_iload_n dX12_hasOwn_78 rfl ?_
  refine e_iconst (nI (2)) dX12_hasOwn_79 (by decide) ?_
  refine e_icmp_geN 87 dX12_hasOwn_80 (by decide) (by omega) (by omega) (fun hcq80 => ?_) (fun hcq80 => absurd hcq80 (by decide))
  refine e_iconst (nI (0)) dX12_hasOwn_87 (by decide) ?_
  exact e_zret dX12_hasOwn_88 rfl (by decide) (hp _ rfl)
set_option maxRecDepth 20000 in
theorem s_own53 (D : En) {h : AH} : Sp D 0 mX12_hasOwn [.int (nI 5), .int (nI 3)] h 0 0 (some (.int (nI 0))) (fun h' => h' = h) := by
  intro post hp
  show Ev D 0 mX12_hasOwn 0 [some (.int (nI (5))), some (.int (nI (3)))] [] h 0 0 post
  refine e_iload_n dX12_hasOwn_0 rfl ?_
  refine e_tableIn (off := 77) 78 dX12_hasOwn_1 (by decide) (by decide) (by decide) (by decide) ?_
  refine e_iload_n dX12_hasOwn_78 rfl ?_
  refine e_iconst (nI (2)) dX12_hasOwn_79 (by decide) ?_
  refine e_icmp_geN 87 dX12_hasOwn_80 (by decide) (by omega) (by omega) (fun hcq80 => ?_) (fun hcq80 => absurd hcq80 (by decide))
  refine e_iconst (nI (0)) dX12_hasOwn_87 (by decide) ?_
  exact e_zret dX12_hasOwn_88 rfl (by decide) (hp _ rfl)
set_option maxRecDepth 20000 in
theorem s_own60 (D : En) {h : AH} : Sp D 0 mX12_hasOwn [.int (nI 6), .int (nI 0)] h 0 0 (some (.int (nI 0))) (fun h' => h' = h) := by
  intro post hp
  show Ev D 0 mX12_hasOwn 0 [some (.int (nI (6))), some (.int (nI (0)))] [] h 0 0 post
  refine e_iload_n dX12_hasOwn_0 rfl ?_
  refine e_tableOut 89 dX12_hasOwn_1 (by decide) (by decide) ?_
  refine e_iload_n dX12_hasOwn_89 rfl ?_
  refine e_iconst (nI (3)) dX12_hasOwn_90 (by decide) ?_
  refine e_icmp_neN 98 dX12_hasOwn_91 (by decide) (by omega) (by omega) (fun hcq91 => ?_) (fun hcq91 => absurd hcq91 (by decide))
  refine e_iconst (nI (0)) dX12_hasOwn_98 (by decide) ?_
  exact e_zret dX12_hasOwn_99 rfl (by decide) (hp _ rfl)
set_option maxRecDepth 20000 in
theorem s_own61 (D : En) {h : AH} : Sp D 0 mX12_hasOwn [.int (nI 6), .int (nI 1)] h 0 0 (some (.int (nI 0))) (fun h' => h' = h) := by
  intro post hp
  show Ev D 0 mX12_hasOwn 0 [some (.int (nI (6))), some (.int (nI (1)))] [] h 0 0 post
  refine e_iload_n dX12_hasOwn_0 rfl ?_
  refine e_tableOut 89 dX12_hasOwn_1 (by decide) (by decide) ?_
  refine e_iload_n dX12_hasOwn_89 rfl ?_
  refine e_iconst (nI (3)) dX12_hasOwn_90 (by decide) ?_
  refine e_icmp_neN 98 dX12_hasOwn_91 (by decide) (by omega) (by omega) (fun hcq91 => ?_) (fun hcq91 => absurd hcq91 (by decide))
  refine e_iconst (nI (0)) dX12_hasOwn_98 (by decide) ?_
  exact e_zret dX12_hasOwn_99 rfl (by decide) (hp _ rfl)
set_option maxRecDepth 20000 in
theorem s_own62 (D : En) {h : AH} : Sp D 0 mX12_hasOwn [.int (nI 6), .int (nI 2)] h 0 0 (some (.int (nI 0))) (fun h' => h' = h) := by
  intro post hp
  show Ev D 0 mX12_hasOwn 0 [some (.int (nI (6))), some (.int (nI (2)))] [] h 0 0 post
  refine e_iload_n dX12_hasOwn_0 rfl ?_
  refine e_tableOut 89 dX12_hasOwn_1 (by decide) (by decide) ?_
  refine e_iload_n dX12_hasOwn_89 rfl ?_
  refine e_iconst (nI (3)) dX12_hasOwn_90 (by decide) ?_
  refine e_icmp_neN 98 dX12_hasOwn_91 (by decide) (by omega) (by omega) (fun hcq91 => ?_) (fun hcq91 => absurd hcq91 (by decide))
  refine e_iconst (nI (0)) dX12_hasOwn_98 (by decide) ?_
  exact e_zret dX12_hasOwn_99 rfl (by decide) (hp _ rfl)
set_option maxRecDepth 20000 in
theorem s_own63 (D : En) {h : AH} : Sp D 0 mX12_hasOwn [.int (nI 6), .int (nI 3)] h 0 0 (some (.int (nI 1))) (fun h' => h' = h) := by
  intro post hp
  show Ev D 0 mX12_hasOwn 0 [some (.int (nI (6))), some (.int (nI (3)))] [] h 0 0 post
  refine e_iload_n dX12_hasOwn_0 rfl ?_
  refine e_tableOut 89 dX12_hasOwn_1 (by decide) (by decide) ?_
  refine e_iload_n dX12_hasOwn_89 rfl ?_
  refine e_iconst (nI (3)) dX12_hasOwn_90 (by decide) ?_
  refine e_icmp_neN 98 dX12_hasOwn_91 (by decide) (by omega) (by omega) (fun hcq91 => absurd hcq91 (by decide)) (fun hcq91 => ?_)
  refine e_iconst (nI (1)) dX12_hasOwn_94 (by decide) ?_
  refine e_goto 99 dX12_hasOwn_95 (by decide) ?_
  exact e_zret dX12_hasOwn_99 rfl (by decide) (hp _ rfl)
set_option maxRecDepth 20000 in
theorem s_abv1 (D : En) {h : AH} : Sp D 0 mX12_above [.int (nI 1)] h 0 0 (some (.int (nI 0))) (fun h' => h' = h) := by
  intro post hp
  show Ev D 0 mX12_above 0 [some (.int (nI (1)))] [] h 0 0 post
  refine e_iload_n dX12_above_0 rfl ?_
  refine e_if_neN 8 dX12_above_1 (by decide) (by omega) (fun hcq1 => ?_) (fun hcq1 => absurd hcq1 (by decide))
  refine e_iload_n dX12_above_8 rfl ?_
  refine e_iconst (nI (3)) dX12_above_9 (by decide) ?_
  refine e_icmp_neN 17 dX12_above_10 (by decide) (by omega) (by omega) (fun hcq10 => ?_) (fun hcq10 => absurd hcq10 (by decide))
  refine e_iload_n dX12_above_17 rfl ?_
  refine e_iconst (nI (5)) dX12_above_18 (by decide) ?_
  refine e_icmp_neN 26 dX12_above_19 (by decide) (by omega) (by omega) (fun hcq19 => ?_) (fun hcq19 => absurd hcq19 (by decide))
  refine e_iload_n dX12_above_26 rfl ?_
  refine e_bipush (nI (6)) dX12_above_27 (by decide) ?_
  refine e_icmp_neN 36 dX12_above_29 (by decide) (by omega) (by omega) (fun hcq29 => ?_) (fun hcq29 => absurd hcq29 (by decide))
  refine e_iconst (nI (0)) dX12_above_36 (by decide) ?_
  exact e_iret dX12_above_37 rfl (hp _ rfl)
set_option maxRecDepth 20000 in
theorem s_abv2 (D : En) {h : AH} : Sp D 0 mX12_above [.int (nI 2)] h 0 0 (some (.int (nI 0))) (fun h' => h' = h) := by
  intro post hp
  show Ev D 0 mX12_above 0 [some (.int (nI (2)))] [] h 0 0 post
  refine e_iload_n dX12_above_0 rfl ?_
  refine e_if_neN 8 dX12_above_1 (by decide) (by omega) (fun hcq1 => ?_) (fun hcq1 => absurd hcq1 (by decide))
  refine e_iload_n dX12_above_8 rfl ?_
  refine e_iconst (nI (3)) dX12_above_9 (by decide) ?_
  refine e_icmp_neN 17 dX12_above_10 (by decide) (by omega) (by omega) (fun hcq10 => ?_) (fun hcq10 => absurd hcq10 (by decide))
  refine e_iload_n dX12_above_17 rfl ?_
  refine e_iconst (nI (5)) dX12_above_18 (by decide) ?_
  refine e_icmp_neN 26 dX12_above_19 (by decide) (by omega) (by omega) (fun hcq19 => ?_) (fun hcq19 => absurd hcq19 (by decide))
  refine e_iload_n dX12_above_26 rfl ?_
  refine e_bipush (nI (6)) dX12_above_27 (by decide) ?_
  refine e_icmp_neN 36 dX12_above_29 (by decide) (by omega) (by omega) (fun hcq29 => ?_) (fun hcq29 => absurd hcq29 (by decide))
  refine e_iconst (nI (0)) dX12_above_36 (by decide) ?_
  exact e_iret dX12_above_37 rfl (hp _ rfl)
set_option maxRecDepth 20000 in
theorem s_abv3 (D : En) {h : AH} : Sp D 0 mX12_above [.int (nI 3)] h 0 0 (some (.int (nI 2))) (fun h' => h' = h) := by
  intro post hp
  show Ev D 0 mX12_above 0 [some (.int (nI (3)))] [] h 0 0 post
  refine e_iload_n dX12_above_0 rfl ?_
  refine e_if_neN 8 dX12_above_1 (by decide) (by omega) (fun hcq1 => ?_) (fun hcq1 => absurd hcq1 (by decide))
  refine e_iload_n dX12_above_8 rfl ?_
  refine e_iconst (nI (3)) dX12_above_9 (by decide) ?_
  refine e_icmp_neN 17 dX12_above_10 (by decide) (by omega) (by omega) (fun hcq10 => absurd hcq10 (by decide)) (fun hcq10 => ?_)
  refine e_iconst (nI (2)) dX12_above_13 (by decide) ?_
  refine e_goto 37 dX12_above_14 (by decide) ?_
  exact e_iret dX12_above_37 rfl (hp _ rfl)
set_option maxRecDepth 20000 in
theorem s_abv4 (D : En) {h : AH} : Sp D 0 mX12_above [.int (nI 4)] h 0 0 (some (.int (nI 0))) (fun h' => h' = h) := by
  intro post hp
  show Ev D 0 mX12_above 0 [some (.int (nI (4)))] [] h 0 0 post
  refine e_iload_n dX12_above_0 rfl ?_
  refine e_if_neN 8 dX12_above_1 (by decide) (by omega) (fun hcq1 => ?_) (fun hcq1 => absurd hcq1 (by decide))
  refine e_iload_n dX12_above_8 rfl ?_
  refine e_iconst (nI (3)) dX12_above_9 (by decide) ?_
  refine e_icmp_neN 17 dX12_above_10 (by decide) (by omega) (by omega) (fun hcq10 => ?_) (fun hcq10 => absurd hcq10 (by decide))
  refine e_iload_n dX12_above_17 rfl ?_
  refine e_iconst (nI (5)) dX12_above_18 (by decide) ?_
  refine e_icmp_neN 26 dX12_above_19 (by decide) (by omega) (by omega) (fun hcq19 => ?_) (fun hcq19 => absurd hcq19 (by decide))
  refine e_iload_n dX12_above_26 rfl ?_
  refine e_bipush (nI (6)) dX12_above_27 (by decide) ?_
  refine e_icmp_neN 36 dX12_above_29 (by decide) (by omega) (by omega) (fun hcq29 => ?_) (fun hcq29 => absurd hcq29 (by decide))
  refine e_iconst (nI (0)) dX12_above_36 (by decide) ?_
  exact e_iret dX12_above_37 rfl (hp _ rfl)
set_option maxRecDepth 20000 in
theorem s_abv5 (D : En) {h : AH} : Sp D 0 mX12_above [.int (nI 5)] h 0 0 (some (.int (nI 1))) (fun h' => h' = h) := by
  intro post hp
  show Ev D 0 mX12_above 0 [some (.int (nI (5)))] [] h 0 0 post
  refine e_iload_n dX12_above_0 rfl ?_
  refine e_if_neN 8 dX12_above_1 (by decide) (by omega) (fun hcq1 => ?_) (fun hcq1 => absurd hcq1 (by decide))
  refine e_iload_n dX12_above_8 rfl ?_
  refine e_iconst (nI (3)) dX12_above_9 (by decide) ?_
  refine e_icmp_neN 17 dX12_above_10 (by decide) (by omega) (by omega) (fun hcq10 => ?_) (fun hcq10 => absurd hcq10 (by decide))
  refine e_iload_n dX12_above_17 rfl ?_
  refine e_iconst (nI (5)) dX12_above_18 (by decide) ?_
  refine e_icmp_neN 26 dX12_above_19 (by decide) (by omega) (by omega) (fun hcq19 => absurd hcq19 (by decide)) (fun hcq19 => ?_)
  refine e_iconst (nI (1)) dX12_above_22 (by decide) ?_
  refine e_goto 37 dX12_above_23 (by decide) ?_
  exact e_iret dX12_above_37 rfl (hp _ rfl)
set_option maxRecDepth 20000 in
theorem s_abv6 (D : En) {h : AH} : Sp D 0 mX12_above [.int (nI 6)] h 0 0 (some (.int (nI 4))) (fun h' => h' = h) := by
  intro post hp
  show Ev D 0 mX12_above 0 [some (.int (nI (6)))] [] h 0 0 post
  refine e_iload_n dX12_above_0 rfl ?_
  refine e_if_neN 8 dX12_above_1 (by decide) (by omega) (fun hcq1 => ?_) (fun hcq1 => absurd hcq1 (by decide))
  refine e_iload_n dX12_above_8 rfl ?_
  refine e_iconst (nI (3)) dX12_above_9 (by decide) ?_
  refine e_icmp_neN 17 dX12_above_10 (by decide) (by omega) (by omega) (fun hcq10 => ?_) (fun hcq10 => absurd hcq10 (by decide))
  refine e_iload_n dX12_above_17 rfl ?_
  refine e_iconst (nI (5)) dX12_above_18 (by decide) ?_
  refine e_icmp_neN 26 dX12_above_19 (by decide) (by omega) (by omega) (fun hcq19 => ?_) (fun hcq19 => absurd hcq19 (by decide))
  refine e_iload_n dX12_above_26 rfl ?_
  refine e_bipush (nI (6)) dX12_above_27 (by decide) ?_
  refine e_icmp_neN 36 dX12_above_29 (by decide) (by omega) (by omega) (fun hcq29 => absurd hcq29 (by decide)) (fun hcq29 => ?_)
  refine e_iconst (nI (4)) dX12_above_32 (by decide) ?_
  refine e_goto 37 dX12_above_33 (by decide) ?_
  exact e_iret dX12_above_37 rfl (hp _ rfl)
set_option maxRecDepth 20000 in
theorem s_bd00 (D : En) {h0 h : AH} {N : Nat → Int32} {σ0 : Nat → Nat → Int32} {τ0 : Nat → Int32} {sp K : Nat} {t : TS} (hsp : sp < 10) (hkd : N (112 + 7 * sp + 0) = nI K) (hA : TA h0 h N σ0 τ0 sp t) (x : Int32) : Sp D 1 mX12_body [.ref (82), .int (nI (0)), .int (nI (0)), .int (x)] h 0 0 (some (.int ((hdB (nI sp) x t).1))) (fun h' => TA h0 h' N σ0 τ0 sp (hdB (nI sp) x t).2) := by
  obtain ⟨τ, hR, hF, h6, h40, h7, hE⟩ := hA
  intro post hp
  show Ev D 1 mX12_body 0 [some (.ref (82)), some (.int (nI (0))), some (.int (nI (0))), some (.int (x)), none] [] h 0 0 post
  refine e_iconst (nI (4)) dX12_body_0 (by decide) ?_
  refine e_iload_n dX12_body_1 rfl ?_
  refine e_imulN dX12_body_2 ?_
  refine e_iload_n dX12_body_3 rfl ?_
  refine e_iaddN dX12_body_4 ?_
  refine e_tableIn (off := 103) 108 dX12_body_5 (by decide) (by decide) (by decide) (by decide) ?_
  refine e_aload_n dX12_body_108 rfl ?_
  refine e_bipush (nI (10)) dX12_body_109 (by decide) ?_
  refine c_V1v (nc := 0) (ns := 0) (mc := 0) (ms := 0) (N := mX12_began) dX12_body_111 lv_X12_314 mo_X12_began hR.cn (Nat.le_of_ble_eq_true rfl) (Nat.le_of_ble_eq_true rfl) (by decide) (s_began D (nI (10)) ⟨τ, hR, hF, h6, h40, h7, hE⟩) (fun h hP => ?_)
  obtain ⟨τ, hR, hF, h6, h40, h7, hE⟩ := hP
  refine e_iload_n dX12_body_114 rfl ?_
  refine e_aload_n dX12_body_115 rfl ?_
  refine e_get dX12_body_116 fl_X12_302_12 hR.1 rfl ?_
  refine e_top (nI (sp)) (h7) ?_
  refine e_iadd dX12_body_119 ?_
  exact e_iret dX12_body_120 rfl (hp _ ⟨τ, hR, hF, h6, h40, h7, hE⟩)
set_option maxRecDepth 20000 in
theorem s_bf00 (D : En) {h0 h : AH} {N : Nat → Int32} {σ0 : Nat → Nat → Int32} {τ0 : Nat → Int32} {sp K : Nat} {t : TS} (hsp : sp < 10) (hkd : N (112 + 7 * sp + 0) = nI K) (hA : TA h0 h N σ0 τ0 sp t) (x : Int32) : Sp D 2 mX12_bodyFrom [.ref (82), .int (nI (0)), .int (nI (0)), .int (x)] h 0 0 (some (.int ((hdF 0 (nI sp) (x) (t)).1))) (fun h' => TA h0 h' N σ0 τ0 sp (hdF 0 (nI sp) (x) (t)).2) := by
  obtain ⟨τ, hR, hF, h6, h40, h7, hE⟩ := hA
  intro post hp
  show Ev D 2 mX12_bodyFrom 0 [some (.ref (82)), some (.int (nI (0))), some (.int (nI (0))), some (.int (x)), none] [] h 0 0 post
  refine e_iload_n dX12_bodyFrom_0 rfl ?_
  refine e_istore dX12_bodyFrom_1 (by decide) ?_
  refine e_iload dX12_bodyFrom_3 rfl ?_
  refine e_iload_n dX12_bodyFrom_5 rfl ?_
  refine c_S2iR (N := mX12_hasOwn) dX12_bodyFrom_6 ls_X12_308 mo_X12_hasOwn  (Nat.le_of_ble_eq_true rfl) (Nat.le_of_ble_eq_true rfl) (by decide) (s_own00 D) ?_
  refine e_if_neN 22 dX12_bodyFrom_9 (by decide) (by omega) (fun hcq9 => ?_) (fun hcq9 => absurd hcq9 (by decide))
  refine e_aload_n dX12_bodyFrom_22 rfl ?_
  refine e_iload dX12_bodyFrom_23 rfl ?_
  refine e_iload_n dX12_bodyFrom_25 rfl ?_
  refine e_iload_n dX12_bodyFrom_26 rfl ?_
  refine c_V3i (nc := 0) (ns := 0) (mc := 0) (ms := 0) (N := mX12_body) dX12_bodyFrom_27 lv_X12_311 mo_X12_body hR.cn (Nat.le_of_ble_eq_true rfl) (Nat.le_of_ble_eq_true rfl) (by decide) (s_bd00 D hsp hkd ⟨τ, hR, hF, h6, h40, h7, hE⟩ x) (fun h hP => ?_)
  obtain ⟨τ, hR, hF, h6, h40, h7, hE⟩ := hP
  exact e_iret dX12_bodyFrom_30 rfl (hp _ ⟨τ, hR, hF, h6, h40, h7, hE⟩)
set_option maxRecDepth 20000 in
theorem s_bf10 (D : En) {h0 h : AH} {N : Nat → Int32} {σ0 : Nat → Nat → Int32} {τ0 : Nat → Int32} {sp K : Nat} {t : TS} (hsp : sp < 10) (hkd : N (112 + 7 * sp + 0) = nI K) (hA : TA h0 h N σ0 τ0 sp t) (x : Int32) : Sp D 2 mX12_bodyFrom [.ref (82), .int (nI (1)), .int (nI (0)), .int (x)] h 0 0 (some (.int ((hdF 1 (nI sp) (x) (t)).1))) (fun h' => TA h0 h' N σ0 τ0 sp (hdF 1 (nI sp) (x) (t)).2) := by
  obtain ⟨τ, hR, hF, h6, h40, h7, hE⟩ := hA
  intro post hp
  show Ev D 2 mX12_bodyFrom 0 [some (.ref (82)), some (.int (nI (1))), some (.int (nI (0))), some (.int (x)), none] [] h 0 0 post
  refine e_iload_n dX12_bodyFrom_0 rfl ?_
  refine e_istore dX12_bodyFrom_1 (by decide) ?_
  refine e_iload dX12_bodyFrom_3 rfl ?_
  refine e_iload_n dX12_bodyFrom_5 rfl ?_
  refine c_S2iR (N := mX12_hasOwn) dX12_bodyFrom_6 ls_X12_308 mo_X12_hasOwn  (Nat.le_of_ble_eq_true rfl) (Nat.le_of_ble_eq_true rfl) (by decide) (s_own10 D) ?_
  refine e_if_neN 22 dX12_bodyFrom_9 (by decide) (by omega) (fun hcq9 => absurd hcq9 (by decide)) (fun hcq9 => ?_)
  refine e_iload dX12_bodyFrom_12 rfl ?_
  refine c_S1iR (N := mX12_above) dX12_bodyFrom_14 ls_X12_154 mo_X12_above  (Nat.le_of_ble_eq_true rfl) (Nat.le_of_ble_eq_true rfl) (by decide) (s_abv1 D) ?_
  refine e_istore dX12_bodyFrom_17 (by decide) ?_
  refine e_goto 3 dX12_bodyFrom_19 (by decide) ?_
  refine e_iload dX12_bodyFrom_3 rfl ?_
  refine e_iload_n dX12_bodyFrom_5 rfl ?_
  refine c_S2iR (N := mX12_hasOwn) dX12_bodyFrom_6 ls_X12_308 mo_X12_hasOwn  (Nat.le_of_ble_eq_true rfl) (Nat.le_of_ble_eq_true rfl) (by decide) (s_own00 D) ?_
  refine e_if_neN 22 dX12_bodyFrom_9 (by decide) (by omega) (fun hcq9 => ?_) (fun hcq9 => absurd hcq9 (by decide))
  refine e_aload_n dX12_bodyFrom_22 rfl ?_
  refine e_iload dX12_bodyFrom_23 rfl ?_
  refine e_iload_n dX12_bodyFrom_25 rfl ?_
  refine e_iload_n dX12_bodyFrom_26 rfl ?_
  refine c_V3i (nc := 0) (ns := 0) (mc := 0) (ms := 0) (N := mX12_body) dX12_bodyFrom_27 lv_X12_311 mo_X12_body hR.cn (Nat.le_of_ble_eq_true rfl) (Nat.le_of_ble_eq_true rfl) (by decide) (s_bd00 D hsp hkd ⟨τ, hR, hF, h6, h40, h7, hE⟩ x) (fun h hP => ?_)
  obtain ⟨τ, hR, hF, h6, h40, h7, hE⟩ := hP
  exact e_iret dX12_bodyFrom_30 rfl (hp _ ⟨τ, hR, hF, h6, h40, h7, hE⟩)
set_option maxRecDepth 20000 in
theorem s_bf40 (D : En) {h0 h : AH} {N : Nat → Int32} {σ0 : Nat → Nat → Int32} {τ0 : Nat → Int32} {sp K : Nat} {t : TS} (hsp : sp < 10) (hkd : N (112 + 7 * sp + 0) = nI K) (hA : TA h0 h N σ0 τ0 sp t) (x : Int32) : Sp D 2 mX12_bodyFrom [.ref (82), .int (nI (4)), .int (nI (0)), .int (x)] h 0 0 (some (.int ((hdF 4 (nI sp) (x) (t)).1))) (fun h' => TA h0 h' N σ0 τ0 sp (hdF 4 (nI sp) (x) (t)).2) := by
  obtain ⟨τ, hR, hF, h6, h40, h7, hE⟩ := hA
  intro post hp
  show Ev D 2 mX12_bodyFrom 0 [some (.ref (82)), some (.int (nI (4))), some (.int (nI (0))), some (.int (x)), none] [] h 0 0 post
  refine e_iload_n dX12_bodyFrom_0 rfl ?_
  refine e_istore dX12_bodyFrom_1 (by decide) ?_
  refine e_iload dX12_bodyFrom_3 rfl ?_
  refine e_iload_n dX12_bodyFrom_5 rfl ?_
  refine c_S2iR (N := mX12_hasOwn) dX12_bodyFrom_6 ls_X12_308 mo_X12_hasOwn  (Nat.le_of_ble_eq_true rfl) (Nat.le_of_ble_eq_true rfl) (by decide) (s_own40 D) ?_
  refine e_if_neN 22 dX12_bodyFrom_9 (by decide) (by omega) (fun hcq9 => absurd hcq9 (by decide)) (fun hcq9 => ?_)
  refine e_iload dX12_bodyFrom_12 rfl ?_
  refine c_S1iR (N := mX12_above) dX12_bodyFrom_14 ls_X12_154 mo_X12_above  (Nat.le_of_ble_eq_true rfl) (Nat.le_of_ble_eq_true rfl) (by decide) (s_abv4 D) ?_
  refine e_istore dX12_bodyFrom_17 (by decide) ?_
  refine e_goto 3 dX12_bodyFrom_19 (by decide) ?_
  refine e_iload dX12_bodyFrom_3 rfl ?_
  refine e_iload_n dX12_bodyFrom_5 rfl ?_
  refine c_S2iR (N := mX12_hasOwn) dX12_bodyFrom_6 ls_X12_308 mo_X12_hasOwn  (Nat.le_of_ble_eq_true rfl) (Nat.le_of_ble_eq_true rfl) (by decide) (s_own00 D) ?_
  refine e_if_neN 22 dX12_bodyFrom_9 (by decide) (by omega) (fun hcq9 => ?_) (fun hcq9 => absurd hcq9 (by decide))
  refine e_aload_n dX12_bodyFrom_22 rfl ?_
  refine e_iload dX12_bodyFrom_23 rfl ?_
  refine e_iload_n dX12_bodyFrom_25 rfl ?_
  refine e_iload_n dX12_bodyFrom_26 rfl ?_
  refine c_V3i (nc := 0) (ns := 0) (mc := 0) (ms := 0) (N := mX12_body) dX12_bodyFrom_27 lv_X12_311 mo_X12_body hR.cn (Nat.le_of_ble_eq_true rfl) (Nat.le_of_ble_eq_true rfl) (by decide) (s_bd00 D hsp hkd ⟨τ, hR, hF, h6, h40, h7, hE⟩ x) (fun h hP => ?_)
  obtain ⟨τ, hR, hF, h6, h40, h7, hE⟩ := hP
  exact e_iret dX12_bodyFrom_30 rfl (hp _ ⟨τ, hR, hF, h6, h40, h7, hE⟩)
set_option maxRecDepth 20000 in
theorem s_bf60 (D : En) {h0 h : AH} {N : Nat → Int32} {σ0 : Nat → Nat → Int32} {τ0 : Nat → Int32} {sp K : Nat} {t : TS} (hsp : sp < 10) (hkd : N (112 + 7 * sp + 0) = nI K) (hA : TA h0 h N σ0 τ0 sp t) (x : Int32) : Sp D 2 mX12_bodyFrom [.ref (82), .int (nI (6)), .int (nI (0)), .int (x)] h 0 0 (some (.int ((hdF 6 (nI sp) (x) (t)).1))) (fun h' => TA h0 h' N σ0 τ0 sp (hdF 6 (nI sp) (x) (t)).2) := by
  obtain ⟨τ, hR, hF, h6, h40, h7, hE⟩ := hA
  intro post hp
  show Ev D 2 mX12_bodyFrom 0 [some (.ref (82)), some (.int (nI (6))), some (.int (nI (0))), some (.int (x)), none] [] h 0 0 post
  refine e_iload_n dX12_bodyFrom_0 rfl ?_
  refine e_istore dX12_bodyFrom_1 (by decide) ?_
  refine e_iload dX12_bodyFrom_3 rfl ?_
  refine e_iload_n dX12_bodyFrom_5 rfl ?_
  refine c_S2iR (N := mX12_hasOwn) dX12_bodyFrom_6 ls_X12_308 mo_X12_hasOwn  (Nat.le_of_ble_eq_true rfl) (Nat.le_of_ble_eq_true rfl) (by decide) (s_own60 D) ?_
  refine e_if_neN 22 dX12_bodyFrom_9 (by decide) (by omega) (fun hcq9 => absurd hcq9 (by decide)) (fun hcq9 => ?_)
  refine e_iload dX12_bodyFrom_12 rfl ?_
  refine c_S1iR (N := mX12_above) dX12_bodyFrom_14 ls_X12_154 mo_X12_above  (Nat.le_of_ble_eq_true rfl) (Nat.le_of_ble_eq_true rfl) (by decide) (s_abv6 D) ?_
  refine e_istore dX12_bodyFrom_17 (by decide) ?_
  refine e_goto 3 dX12_bodyFrom_19 (by decide) ?_
  refine e_iload dX12_bodyFrom_3 rfl ?_
  refine e_iload_n dX12_bodyFrom_5 rfl ?_
  refine c_S2iR (N := mX12_hasOwn) dX12_bodyFrom_6 ls_X12_308 mo_X12_hasOwn  (Nat.le_of_ble_eq_true rfl) (Nat.le_of_ble_eq_true rfl) (by decide) (s_own40 D) ?_
  refine e_if_neN 22 dX12_bodyFrom_9 (by decide) (by omega) (fun hcq9 => absurd hcq9 (by decide)) (fun hcq9 => ?_)
  refine e_iload dX12_bodyFrom_12 rfl ?_
  refine c_S1iR (N := mX12_above) dX12_bodyFrom_14 ls_X12_154 mo_X12_above  (Nat.le_of_ble_eq_true rfl) (Nat.le_of_ble_eq_true rfl) (by decide) (s_abv4 D) ?_
  refine e_istore dX12_bodyFrom_17 (by decide) ?_
  refine e_goto 3 dX12_bodyFrom_19 (by decide) ?_
  refine e_iload dX12_bodyFrom_3 rfl ?_
  refine e_iload_n dX12_bodyFrom_5 rfl ?_
  refine c_S2iR (N := mX12_hasOwn) dX12_bodyFrom_6 ls_X12_308 mo_X12_hasOwn  (Nat.le_of_ble_eq_true rfl) (Nat.le_of_ble_eq_true rfl) (by decide) (s_own00 D) ?_
  refine e_if_neN 22 dX12_bodyFrom_9 (by decide) (by omega) (fun hcq9 => ?_) (fun hcq9 => absurd hcq9 (by decide))
  refine e_aload_n dX12_bodyFrom_22 rfl ?_
  refine e_iload dX12_bodyFrom_23 rfl ?_
  refine e_iload_n dX12_bodyFrom_25 rfl ?_
  refine e_iload_n dX12_bodyFrom_26 rfl ?_
  refine c_V3i (nc := 0) (ns := 0) (mc := 0) (ms := 0) (N := mX12_body) dX12_bodyFrom_27 lv_X12_311 mo_X12_body hR.cn (Nat.le_of_ble_eq_true rfl) (Nat.le_of_ble_eq_true rfl) (by decide) (s_bd00 D hsp hkd ⟨τ, hR, hF, h6, h40, h7, hE⟩ x) (fun h hP => ?_)
  obtain ⟨τ, hR, hF, h6, h40, h7, hE⟩ := hP
  exact e_iret dX12_bodyFrom_30 rfl (hp _ ⟨τ, hR, hF, h6, h40, h7, hE⟩)
set_option maxRecDepth 20000 in
theorem s_bd20 (D : En) {h0 h : AH} {N : Nat → Int32} {σ0 : Nat → Nat → Int32} {τ0 : Nat → Int32} {sp K : Nat} {t : TS} (hsp : sp < 10) (hkd : N (112 + 7 * sp + 0) = nI K) (hA : TA h0 h N σ0 τ0 sp t) (x : Int32) : Sp D 3 mX12_body [.ref (82), .int (nI (2)), .int (nI (0)), .int (x)] h 0 0 (some (.int ((hdS (nI sp) x t).1))) (fun h' => TA h0 h' N σ0 τ0 sp (hdS (nI sp) x t).2) := by
  obtain ⟨τ, hR, hF, h6, h40, h7, hE⟩ := hA
  intro post hp
  show Ev D 3 mX12_body 0 [some (.ref (82)), some (.int (nI (2))), some (.int (nI (0))), some (.int (x)), none] [] h 0 0 post
  refine e_iconst (nI (4)) dX12_body_0 (by decide) ?_
  refine e_iload_n dX12_body_1 rfl ?_
  refine e_imulN dX12_body_2 ?_
  refine e_iload_n dX12_body_3 rfl ?_
  refine e_iaddN dX12_body_4 ?_
  refine e_tableIn (off := 198) 203 dX12_body_5 (by decide) (by decide) (by decide) (by decide) ?_
  refine e_aload_n dX12_body_203 rfl ?_
  refine e_bipush (nI (30)) dX12_body_204 (by decide) ?_
  refine c_V1v (nc := 0) (ns := 0) (mc := 0) (ms := 0) (N := mX12_began) dX12_body_206 lv_X12_314 mo_X12_began hR.cn (Nat.le_of_ble_eq_true rfl) (Nat.le_of_ble_eq_true rfl) (by decide) (s_began D (nI (30)) ⟨τ, hR, hF, h6, h40, h7, hE⟩) (fun h hP => ?_)
  obtain ⟨τ, hR, hF, h6, h40, h7, hE⟩ := hP
  refine e_aload_n dX12_body_209 rfl ?_
  refine e_iconst (nI (0)) dX12_body_210 (by decide) ?_
  refine e_iconst (nI (0)) dX12_body_211 (by decide) ?_
  refine e_iload_n dX12_body_212 rfl ?_
  refine c_V3i (nc := 0) (ns := 0) (mc := 0) (ms := 0) (N := mX12_bodyFrom) dX12_body_213 lv_X12_305 mo_X12_bodyFrom hR.cn (Nat.le_of_ble_eq_true rfl) (Nat.le_of_ble_eq_true rfl) (by decide) (s_bf00 D hsp hkd ⟨τ, hR, hF, h6, h40, h7, hE⟩ ((x))) (fun h hP => ?_)
  obtain ⟨τ, hR, hF, h6, h40, h7, hE⟩ := hP
  refine e_iconst (nI (3)) dX12_body_216 (by decide) ?_
  refine e_imul dX12_body_217 ?_
  exact e_iret dX12_body_218 rfl (hp _ ⟨τ, hR, hF, h6, h40, h7, hE⟩)
set_option maxRecDepth 20000 in
theorem s_bf20 (D : En) {h0 h : AH} {N : Nat → Int32} {σ0 : Nat → Nat → Int32} {τ0 : Nat → Int32} {sp K : Nat} {t : TS} (hsp : sp < 10) (hkd : N (112 + 7 * sp + 0) = nI K) (hA : TA h0 h N σ0 τ0 sp t) (x : Int32) : Sp D 4 mX12_bodyFrom [.ref (82), .int (nI (2)), .int (nI (0)), .int (x)] h 0 0 (some (.int ((hdF 2 (nI sp) (x) (t)).1))) (fun h' => TA h0 h' N σ0 τ0 sp (hdF 2 (nI sp) (x) (t)).2) := by
  obtain ⟨τ, hR, hF, h6, h40, h7, hE⟩ := hA
  intro post hp
  show Ev D 4 mX12_bodyFrom 0 [some (.ref (82)), some (.int (nI (2))), some (.int (nI (0))), some (.int (x)), none] [] h 0 0 post
  refine e_iload_n dX12_bodyFrom_0 rfl ?_
  refine e_istore dX12_bodyFrom_1 (by decide) ?_
  refine e_iload dX12_bodyFrom_3 rfl ?_
  refine e_iload_n dX12_bodyFrom_5 rfl ?_
  refine c_S2iR (N := mX12_hasOwn) dX12_bodyFrom_6 ls_X12_308 mo_X12_hasOwn  (Nat.le_of_ble_eq_true rfl) (Nat.le_of_ble_eq_true rfl) (by decide) (s_own20 D) ?_
  refine e_if_neN 22 dX12_bodyFrom_9 (by decide) (by omega) (fun hcq9 => ?_) (fun hcq9 => absurd hcq9 (by decide))
  refine e_aload_n dX12_bodyFrom_22 rfl ?_
  refine e_iload dX12_bodyFrom_23 rfl ?_
  refine e_iload_n dX12_bodyFrom_25 rfl ?_
  refine e_iload_n dX12_bodyFrom_26 rfl ?_
  refine c_V3i (nc := 0) (ns := 0) (mc := 0) (ms := 0) (N := mX12_body) dX12_bodyFrom_27 lv_X12_311 mo_X12_body hR.cn (Nat.le_of_ble_eq_true rfl) (Nat.le_of_ble_eq_true rfl) (by decide) (s_bd20 D hsp hkd ⟨τ, hR, hF, h6, h40, h7, hE⟩ x) (fun h hP => ?_)
  obtain ⟨τ, hR, hF, h6, h40, h7, hE⟩ := hP
  exact e_iret dX12_bodyFrom_30 rfl (hp _ ⟨τ, hR, hF, h6, h40, h7, hE⟩)
set_option maxRecDepth 20000 in
theorem s_bd30 (D : En) {h0 h : AH} {N : Nat → Int32} {σ0 : Nat → Nat → Int32} {τ0 : Nat → Int32} {sp K : Nat} {t : TS} (hsp : sp < 10) (hkd : N (112 + 7 * sp + 0) = nI K) (hA : TA h0 h N σ0 τ0 sp t) (x : Int32) : Sp D 5 mX12_body [.ref (82), .int (nI (3)), .int (nI (0)), .int (x)] h 0 0 (some (.int ((hdF 3 (nI sp) x t).1))) (fun h' => TA h0 h' N σ0 τ0 sp (hdF 3 (nI sp) x t).2) := by
  obtain ⟨τ, hR, hF, h6, h40, h7, hE⟩ := hA
  intro post hp
  show Ev D 5 mX12_body 0 [some (.ref (82)), some (.int (nI (3))), some (.int (nI (0))), some (.int (x)), none] [] h 0 0 post
  refine e_iconst (nI (4)) dX12_body_0 (by decide) ?_
  refine e_iload_n dX12_body_1 rfl ?_
  refine e_imulN dX12_body_2 ?_
  refine e_iload_n dX12_body_3 rfl ?_
  refine e_iaddN dX12_body_4 ?_
  refine e_tableIn (off := 229) 234 dX12_body_5 (by decide) (by decide) (by decide) (by decide) ?_
  refine e_aload_n dX12_body_234 rfl ?_
  refine e_bipush (nI (41)) dX12_body_235 (by decide) ?_
  refine c_V1v (nc := 0) (ns := 0) (mc := 0) (ms := 0) (N := mX12_began) dX12_body_237 lv_X12_314 mo_X12_began hR.cn (Nat.le_of_ble_eq_true rfl) (Nat.le_of_ble_eq_true rfl) (by decide) (s_began D (nI (41)) ⟨τ, hR, hF, h6, h40, h7, hE⟩) (fun h hP => ?_)
  obtain ⟨τ, hR, hF, h6, h40, h7, hE⟩ := hP
  refine e_aload_n dX12_body_240 rfl ?_
  refine e_iconst (nI (2)) dX12_body_241 (by decide) ?_
  refine e_iconst (nI (0)) dX12_body_242 (by decide) ?_
  refine e_iload_n dX12_body_243 rfl ?_
  refine e_iconst (nI (1)) dX12_body_244 (by decide) ?_
  refine e_iadd dX12_body_245 ?_
  refine c_V3i (nc := 0) (ns := 0) (mc := 0) (ms := 0) (N := mX12_bodyFrom) dX12_body_246 lv_X12_305 mo_X12_bodyFrom hR.cn (Nat.le_of_ble_eq_true rfl) (Nat.le_of_ble_eq_true rfl) (by decide) (s_bf20 D hsp hkd ⟨τ, hR, hF, h6, h40, h7, hE⟩ (((x) + nI (1)))) (fun h hP => ?_)
  obtain ⟨τ, hR, hF, h6, h40, h7, hE⟩ := hP
  exact e_iret dX12_body_249 rfl (hp _ ⟨τ, hR, hF, h6, h40, h7, hE⟩)
set_option maxRecDepth 20000 in
theorem s_bf30 (D : En) {h0 h : AH} {N : Nat → Int32} {σ0 : Nat → Nat → Int32} {τ0 : Nat → Int32} {sp K : Nat} {t : TS} (hsp : sp < 10) (hkd : N (112 + 7 * sp + 0) = nI K) (hA : TA h0 h N σ0 τ0 sp t) (x : Int32) : Sp D 6 mX12_bodyFrom [.ref (82), .int (nI (3)), .int (nI (0)), .int (x)] h 0 0 (some (.int ((hdF 3 (nI sp) (x) (t)).1))) (fun h' => TA h0 h' N σ0 τ0 sp (hdF 3 (nI sp) (x) (t)).2) := by
  obtain ⟨τ, hR, hF, h6, h40, h7, hE⟩ := hA
  intro post hp
  show Ev D 6 mX12_bodyFrom 0 [some (.ref (82)), some (.int (nI (3))), some (.int (nI (0))), some (.int (x)), none] [] h 0 0 post
  refine e_iload_n dX12_bodyFrom_0 rfl ?_
  refine e_istore dX12_bodyFrom_1 (by decide) ?_
  refine e_iload dX12_bodyFrom_3 rfl ?_
  refine e_iload_n dX12_bodyFrom_5 rfl ?_
  refine c_S2iR (N := mX12_hasOwn) dX12_bodyFrom_6 ls_X12_308 mo_X12_hasOwn  (Nat.le_of_ble_eq_true rfl) (Nat.le_of_ble_eq_true rfl) (by decide) (s_own30 D) ?_
  refine e_if_neN 22 dX12_bodyFrom_9 (by decide) (by omega) (fun hcq9 => ?_) (fun hcq9 => absurd hcq9 (by decide))
  refine e_aload_n dX12_bodyFrom_22 rfl ?_
  refine e_iload dX12_bodyFrom_23 rfl ?_
  refine e_iload_n dX12_bodyFrom_25 rfl ?_
  refine e_iload_n dX12_bodyFrom_26 rfl ?_
  refine c_V3i (nc := 0) (ns := 0) (mc := 0) (ms := 0) (N := mX12_body) dX12_bodyFrom_27 lv_X12_311 mo_X12_body hR.cn (Nat.le_of_ble_eq_true rfl) (Nat.le_of_ble_eq_true rfl) (by decide) (s_bd30 D hsp hkd ⟨τ, hR, hF, h6, h40, h7, hE⟩ x) (fun h hP => ?_)
  obtain ⟨τ, hR, hF, h6, h40, h7, hE⟩ := hP
  exact e_iret dX12_bodyFrom_30 rfl (hp _ ⟨τ, hR, hF, h6, h40, h7, hE⟩)
set_option maxRecDepth 20000 in
theorem s_bd50 (D : En) {h0 h : AH} {N : Nat → Int32} {σ0 : Nat → Nat → Int32} {τ0 : Nat → Int32} {sp K : Nat} {t : TS} (hsp : sp < 10) (hkd : N (112 + 7 * sp + 0) = nI K) (hA : TA h0 h N σ0 τ0 sp t) (x : Int32) : Sp D 5 mX12_body [.ref (82), .int (nI (5)), .int (nI (0)), .int (x)] h 0 0 (some (.int ((hdF 5 (nI sp) x t).1))) (fun h' => TA h0 h' N σ0 τ0 sp (hdF 5 (nI sp) x t).2) := by
  obtain ⟨τ, hR, hF, h6, h40, h7, hE⟩ := hA
  intro post hp
  show Ev D 5 mX12_body 0 [some (.ref (82)), some (.int (nI (5))), some (.int (nI (0))), some (.int (x)), none] [] h 0 0 post
  refine e_iconst (nI (4)) dX12_body_0 (by decide) ?_
  refine e_iload_n dX12_body_1 rfl ?_
  refine e_imulN dX12_body_2 ?_
  refine e_iload_n dX12_body_3 rfl ?_
  refine e_iaddN dX12_body_4 ?_
  refine e_tableIn (off := 270) 275 dX12_body_5 (by decide) (by decide) (by decide) (by decide) ?_
  refine e_aload_n dX12_body_275 rfl ?_
  refine e_bipush (nI (60)) dX12_body_276 (by decide) ?_
  refine c_V1v (nc := 0) (ns := 0) (mc := 0) (ms := 0) (N := mX12_began) dX12_body_278 lv_X12_314 mo_X12_began hR.cn (Nat.le_of_ble_eq_true rfl) (Nat.le_of_ble_eq_true rfl) (by decide) (s_began D (nI (60)) ⟨τ, hR, hF, h6, h40, h7, hE⟩) (fun h hP => ?_)
  obtain ⟨τ, hR, hF, h6, h40, h7, hE⟩ := hP
  refine e_aload_n dX12_body_281 rfl ?_
  refine e_iconst (nI (1)) dX12_body_282 (by decide) ?_
  refine e_iconst (nI (0)) dX12_body_283 (by decide) ?_
  refine e_iload_n dX12_body_284 rfl ?_
  refine c_V3i (nc := 0) (ns := 0) (mc := 0) (ms := 0) (N := mX12_bodyFrom) dX12_body_285 lv_X12_305 mo_X12_bodyFrom hR.cn (Nat.le_of_ble_eq_true rfl) (Nat.le_of_ble_eq_true rfl) (by decide) (s_bf10 D hsp hkd ⟨τ, hR, hF, h6, h40, h7, hE⟩ ((x))) (fun h hP => ?_)
  obtain ⟨τ, hR, hF, h6, h40, h7, hE⟩ := hP
  refine e_aload_n dX12_body_288 rfl ?_
  refine e_get dX12_body_289 fl_X12_302_12 hR.1 rfl ?_
  refine e_top (nI (sp)) (h7) ?_
  refine e_ixor dX12_body_292 ?_
  exact e_iret dX12_body_293 rfl (hp _ ⟨τ, hR, hF, h6, h40, h7, hE⟩)
set_option maxRecDepth 20000 in
theorem s_bf50 (D : En) {h0 h : AH} {N : Nat → Int32} {σ0 : Nat → Nat → Int32} {τ0 : Nat → Int32} {sp K : Nat} {t : TS} (hsp : sp < 10) (hkd : N (112 + 7 * sp + 0) = nI K) (hA : TA h0 h N σ0 τ0 sp t) (x : Int32) : Sp D 6 mX12_bodyFrom [.ref (82), .int (nI (5)), .int (nI (0)), .int (x)] h 0 0 (some (.int ((hdF 5 (nI sp) (x) (t)).1))) (fun h' => TA h0 h' N σ0 τ0 sp (hdF 5 (nI sp) (x) (t)).2) := by
  obtain ⟨τ, hR, hF, h6, h40, h7, hE⟩ := hA
  intro post hp
  show Ev D 6 mX12_bodyFrom 0 [some (.ref (82)), some (.int (nI (5))), some (.int (nI (0))), some (.int (x)), none] [] h 0 0 post
  refine e_iload_n dX12_bodyFrom_0 rfl ?_
  refine e_istore dX12_bodyFrom_1 (by decide) ?_
  refine e_iload dX12_bodyFrom_3 rfl ?_
  refine e_iload_n dX12_bodyFrom_5 rfl ?_
  refine c_S2iR (N := mX12_hasOwn) dX12_bodyFrom_6 ls_X12_308 mo_X12_hasOwn  (Nat.le_of_ble_eq_true rfl) (Nat.le_of_ble_eq_true rfl) (by decide) (s_own50 D) ?_
  refine e_if_neN 22 dX12_bodyFrom_9 (by decide) (by omega) (fun hcq9 => ?_) (fun hcq9 => absurd hcq9 (by decide))
  refine e_aload_n dX12_bodyFrom_22 rfl ?_
  refine e_iload dX12_bodyFrom_23 rfl ?_
  refine e_iload_n dX12_bodyFrom_25 rfl ?_
  refine e_iload_n dX12_bodyFrom_26 rfl ?_
  refine c_V3i (nc := 0) (ns := 0) (mc := 0) (ms := 0) (N := mX12_body) dX12_bodyFrom_27 lv_X12_311 mo_X12_body hR.cn (Nat.le_of_ble_eq_true rfl) (Nat.le_of_ble_eq_true rfl) (by decide) (s_bd50 D hsp hkd ⟨τ, hR, hF, h6, h40, h7, hE⟩ x) (fun h hP => ?_)
  obtain ⟨τ, hR, hF, h6, h40, h7, hE⟩ := hP
  exact e_iret dX12_bodyFrom_30 rfl (hp _ ⟨τ, hR, hF, h6, h40, h7, hE⟩)
set_option maxRecDepth 20000 in
theorem s_vc0_0 (D : En) {h0 h : AH} {N : Nat → Int32} {σ0 : Nat → Nat → Int32} {τ0 : Nat → Int32} {sp : Nat} {t : TS} (hsp : sp < 10) (hkd : N (112 + 7 * sp + 0) = nI 0) (hA : TA h0 h N σ0 τ0 sp t) (x : Int32) : Sp D 7 mX12_voiced [.ref 82, .int (nI 0), .int x] h 0 0 (some (.int (hdF 0 (nI sp) (x) (t)).1)) (fun h' => TA h0 h' N σ0 τ0 sp (hdF 0 (nI sp) (x) (t)).2) := by
  obtain ⟨τ, hR, hF, h6, h40, h7, hE⟩ := hA
  intro post hp
  show Ev D 7 mX12_voiced 0 [some (.ref (82)), some (.int (nI (0))), some (.int (x))] [] h 0 0 post
  refine e_aload_n dX12_voiced_0 rfl ?_
  refine e_aload_n dX12_voiced_1 rfl ?_
  refine e_aload_n dX12_voiced_2 rfl ?_
  refine e_get dX12_voiced_3 fl_X12_302_12 hR.1 rfl ?_
  refine e_top (nI (sp)) (h7) ?_
  refine e_iconst (nI (0)) dX12_voiced_6 (by decide) ?_
  refine c_V2iR (N := mX12_thing) dX12_voiced_7 lv_X12_136 mo_X12_thing hR.cn (Nat.le_of_ble_eq_true rfl) (Nat.le_of_ble_eq_true rfl) (by decide) (s_thing D hR (sp) (0) (by omega) (by omega)) ?_
  refine e_top (nI (0)) (hkd) ?_
  refine e_iload_n dX12_voiced_10 rfl ?_
  refine e_iload_n dX12_voiced_11 rfl ?_
  refine c_V3i (nc := 0) (ns := 0) (mc := 0) (ms := 0) (N := mX12_bodyFrom) dX12_voiced_12 lv_X12_305 mo_X12_bodyFrom hR.cn (Nat.le_of_ble_eq_true rfl) (Nat.le_of_ble_eq_true rfl) (by decide) (s_bf00 D hsp hkd ⟨τ, hR, hF, h6, h40, h7, hE⟩ x) (fun h hP => ?_)
  obtain ⟨τ, hR, hF, h6, h40, h7, hE⟩ := hP
  exact e_iret dX12_voiced_15 rfl (hp _ ⟨τ, hR, hF, h6, h40, h7, hE⟩)
set_option maxRecDepth 20000 in
theorem s_vc0_1 (D : En) {h0 h : AH} {N : Nat → Int32} {σ0 : Nat → Nat → Int32} {τ0 : Nat → Int32} {sp : Nat} {t : TS} (hsp : sp < 10) (hkd : N (112 + 7 * sp + 0) = nI 1) (hA : TA h0 h N σ0 τ0 sp t) (x : Int32) : Sp D 7 mX12_voiced [.ref 82, .int (nI 0), .int x] h 0 0 (some (.int (hdF 1 (nI sp) (x) (t)).1)) (fun h' => TA h0 h' N σ0 τ0 sp (hdF 1 (nI sp) (x) (t)).2) := by
  obtain ⟨τ, hR, hF, h6, h40, h7, hE⟩ := hA
  intro post hp
  show Ev D 7 mX12_voiced 0 [some (.ref (82)), some (.int (nI (0))), some (.int (x))] [] h 0 0 post
  refine e_aload_n dX12_voiced_0 rfl ?_
  refine e_aload_n dX12_voiced_1 rfl ?_
  refine e_aload_n dX12_voiced_2 rfl ?_
  refine e_get dX12_voiced_3 fl_X12_302_12 hR.1 rfl ?_
  refine e_top (nI (sp)) (h7) ?_
  refine e_iconst (nI (0)) dX12_voiced_6 (by decide) ?_
  refine c_V2iR (N := mX12_thing) dX12_voiced_7 lv_X12_136 mo_X12_thing hR.cn (Nat.le_of_ble_eq_true rfl) (Nat.le_of_ble_eq_true rfl) (by decide) (s_thing D hR (sp) (0) (by omega) (by omega)) ?_
  refine e_top (nI (1)) (hkd) ?_
  refine e_iload_n dX12_voiced_10 rfl ?_
  refine e_iload_n dX12_voiced_11 rfl ?_
  refine c_V3i (nc := 0) (ns := 0) (mc := 0) (ms := 0) (N := mX12_bodyFrom) dX12_voiced_12 lv_X12_305 mo_X12_bodyFrom hR.cn (Nat.le_of_ble_eq_true rfl) (Nat.le_of_ble_eq_true rfl) (by decide) (s_bf10 D hsp hkd ⟨τ, hR, hF, h6, h40, h7, hE⟩ x) (fun h hP => ?_)
  obtain ⟨τ, hR, hF, h6, h40, h7, hE⟩ := hP
  exact e_iret dX12_voiced_15 rfl (hp _ ⟨τ, hR, hF, h6, h40, h7, hE⟩)
set_option maxRecDepth 20000 in
theorem s_vc0_2 (D : En) {h0 h : AH} {N : Nat → Int32} {σ0 : Nat → Nat → Int32} {τ0 : Nat → Int32} {sp : Nat} {t : TS} (hsp : sp < 10) (hkd : N (112 + 7 * sp + 0) = nI 2) (hA : TA h0 h N σ0 τ0 sp t) (x : Int32) : Sp D 7 mX12_voiced [.ref 82, .int (nI 0), .int x] h 0 0 (some (.int (hdF 2 (nI sp) (x) (t)).1)) (fun h' => TA h0 h' N σ0 τ0 sp (hdF 2 (nI sp) (x) (t)).2) := by
  obtain ⟨τ, hR, hF, h6, h40, h7, hE⟩ := hA
  intro post hp
  show Ev D 7 mX12_voiced 0 [some (.ref (82)), some (.int (nI (0))), some (.int (x))] [] h 0 0 post
  refine e_aload_n dX12_voiced_0 rfl ?_
  refine e_aload_n dX12_voiced_1 rfl ?_
  refine e_aload_n dX12_voiced_2 rfl ?_
  refine e_get dX12_voiced_3 fl_X12_302_12 hR.1 rfl ?_
  refine e_top (nI (sp)) (h7) ?_
  refine e_iconst (nI (0)) dX12_voiced_6 (by decide) ?_
  refine c_V2iR (N := mX12_thing) dX12_voiced_7 lv_X12_136 mo_X12_thing hR.cn (Nat.le_of_ble_eq_true rfl) (Nat.le_of_ble_eq_true rfl) (by decide) (s_thing D hR (sp) (0) (by omega) (by omega)) ?_
  refine e_top (nI (2)) (hkd) ?_
  refine e_iload_n dX12_voiced_10 rfl ?_
  refine e_iload_n dX12_voiced_11 rfl ?_
  refine c_V3i (nc := 0) (ns := 0) (mc := 0) (ms := 0) (N := mX12_bodyFrom) dX12_voiced_12 lv_X12_305 mo_X12_bodyFrom hR.cn (Nat.le_of_ble_eq_true rfl) (Nat.le_of_ble_eq_true rfl) (by decide) (s_bf20 D hsp hkd ⟨τ, hR, hF, h6, h40, h7, hE⟩ x) (fun h hP => ?_)
  obtain ⟨τ, hR, hF, h6, h40, h7, hE⟩ := hP
  exact e_iret dX12_voiced_15 rfl (hp _ ⟨τ, hR, hF, h6, h40, h7, hE⟩)
set_option maxRecDepth 20000 in
theorem s_vc0_3 (D : En) {h0 h : AH} {N : Nat → Int32} {σ0 : Nat → Nat → Int32} {τ0 : Nat → Int32} {sp : Nat} {t : TS} (hsp : sp < 10) (hkd : N (112 + 7 * sp + 0) = nI 3) (hA : TA h0 h N σ0 τ0 sp t) (x : Int32) : Sp D 7 mX12_voiced [.ref 82, .int (nI 0), .int x] h 0 0 (some (.int (hdF 3 (nI sp) (x) (t)).1)) (fun h' => TA h0 h' N σ0 τ0 sp (hdF 3 (nI sp) (x) (t)).2) := by
  obtain ⟨τ, hR, hF, h6, h40, h7, hE⟩ := hA
  intro post hp
  show Ev D 7 mX12_voiced 0 [some (.ref (82)), some (.int (nI (0))), some (.int (x))] [] h 0 0 post
  refine e_aload_n dX12_voiced_0 rfl ?_
  refine e_aload_n dX12_voiced_1 rfl ?_
  refine e_aload_n dX12_voiced_2 rfl ?_
  refine e_get dX12_voiced_3 fl_X12_302_12 hR.1 rfl ?_
  refine e_top (nI (sp)) (h7) ?_
  refine e_iconst (nI (0)) dX12_voiced_6 (by decide) ?_
  refine c_V2iR (N := mX12_thing) dX12_voiced_7 lv_X12_136 mo_X12_thing hR.cn (Nat.le_of_ble_eq_true rfl) (Nat.le_of_ble_eq_true rfl) (by decide) (s_thing D hR (sp) (0) (by omega) (by omega)) ?_
  refine e_top (nI (3)) (hkd) ?_
  refine e_iload_n dX12_voiced_10 rfl ?_
  refine e_iload_n dX12_voiced_11 rfl ?_
  refine c_V3i (nc := 0) (ns := 0) (mc := 0) (ms := 0) (N := mX12_bodyFrom) dX12_voiced_12 lv_X12_305 mo_X12_bodyFrom hR.cn (Nat.le_of_ble_eq_true rfl) (Nat.le_of_ble_eq_true rfl) (by decide) (s_bf30 D hsp hkd ⟨τ, hR, hF, h6, h40, h7, hE⟩ x) (fun h hP => ?_)
  obtain ⟨τ, hR, hF, h6, h40, h7, hE⟩ := hP
  exact e_iret dX12_voiced_15 rfl (hp _ ⟨τ, hR, hF, h6, h40, h7, hE⟩)
set_option maxRecDepth 20000 in
theorem s_vc0_4 (D : En) {h0 h : AH} {N : Nat → Int32} {σ0 : Nat → Nat → Int32} {τ0 : Nat → Int32} {sp : Nat} {t : TS} (hsp : sp < 10) (hkd : N (112 + 7 * sp + 0) = nI 4) (hA : TA h0 h N σ0 τ0 sp t) (x : Int32) : Sp D 7 mX12_voiced [.ref 82, .int (nI 0), .int x] h 0 0 (some (.int (hdF 4 (nI sp) (x) (t)).1)) (fun h' => TA h0 h' N σ0 τ0 sp (hdF 4 (nI sp) (x) (t)).2) := by
  obtain ⟨τ, hR, hF, h6, h40, h7, hE⟩ := hA
  intro post hp
  show Ev D 7 mX12_voiced 0 [some (.ref (82)), some (.int (nI (0))), some (.int (x))] [] h 0 0 post
  refine e_aload_n dX12_voiced_0 rfl ?_
  refine e_aload_n dX12_voiced_1 rfl ?_
  refine e_aload_n dX12_voiced_2 rfl ?_
  refine e_get dX12_voiced_3 fl_X12_302_12 hR.1 rfl ?_
  refine e_top (nI (sp)) (h7) ?_
  refine e_iconst (nI (0)) dX12_voiced_6 (by decide) ?_
  refine c_V2iR (N := mX12_thing) dX12_voiced_7 lv_X12_136 mo_X12_thing hR.cn (Nat.le_of_ble_eq_true rfl) (Nat.le_of_ble_eq_true rfl) (by decide) (s_thing D hR (sp) (0) (by omega) (by omega)) ?_
  refine e_top (nI (4)) (hkd) ?_
  refine e_iload_n dX12_voiced_10 rfl ?_
  refine e_iload_n dX12_voiced_11 rfl ?_
  refine c_V3i (nc := 0) (ns := 0) (mc := 0) (ms := 0) (N := mX12_bodyFrom) dX12_voiced_12 lv_X12_305 mo_X12_bodyFrom hR.cn (Nat.le_of_ble_eq_true rfl) (Nat.le_of_ble_eq_true rfl) (by decide) (s_bf40 D hsp hkd ⟨τ, hR, hF, h6, h40, h7, hE⟩ x) (fun h hP => ?_)
  obtain ⟨τ, hR, hF, h6, h40, h7, hE⟩ := hP
  exact e_iret dX12_voiced_15 rfl (hp _ ⟨τ, hR, hF, h6, h40, h7, hE⟩)
set_option maxRecDepth 20000 in
theorem s_vc0_5 (D : En) {h0 h : AH} {N : Nat → Int32} {σ0 : Nat → Nat → Int32} {τ0 : Nat → Int32} {sp : Nat} {t : TS} (hsp : sp < 10) (hkd : N (112 + 7 * sp + 0) = nI 5) (hA : TA h0 h N σ0 τ0 sp t) (x : Int32) : Sp D 7 mX12_voiced [.ref 82, .int (nI 0), .int x] h 0 0 (some (.int (hdF 5 (nI sp) (x) (t)).1)) (fun h' => TA h0 h' N σ0 τ0 sp (hdF 5 (nI sp) (x) (t)).2) := by
  obtain ⟨τ, hR, hF, h6, h40, h7, hE⟩ := hA
  intro post hp
  show Ev D 7 mX12_voiced 0 [some (.ref (82)), some (.int (nI (0))), some (.int (x))] [] h 0 0 post
  refine e_aload_n dX12_voiced_0 rfl ?_
  refine e_aload_n dX12_voiced_1 rfl ?_
  refine e_aload_n dX12_voiced_2 rfl ?_
  refine e_get dX12_voiced_3 fl_X12_302_12 hR.1 rfl ?_
  refine e_top (nI (sp)) (h7) ?_
  refine e_iconst (nI (0)) dX12_voiced_6 (by decide) ?_
  refine c_V2iR (N := mX12_thing) dX12_voiced_7 lv_X12_136 mo_X12_thing hR.cn (Nat.le_of_ble_eq_true rfl) (Nat.le_of_ble_eq_true rfl) (by decide) (s_thing D hR (sp) (0) (by omega) (by omega)) ?_
  refine e_top (nI (5)) (hkd) ?_
  refine e_iload_n dX12_voiced_10 rfl ?_
  refine e_iload_n dX12_voiced_11 rfl ?_
  refine c_V3i (nc := 0) (ns := 0) (mc := 0) (ms := 0) (N := mX12_bodyFrom) dX12_voiced_12 lv_X12_305 mo_X12_bodyFrom hR.cn (Nat.le_of_ble_eq_true rfl) (Nat.le_of_ble_eq_true rfl) (by decide) (s_bf50 D hsp hkd ⟨τ, hR, hF, h6, h40, h7, hE⟩ x) (fun h hP => ?_)
  obtain ⟨τ, hR, hF, h6, h40, h7, hE⟩ := hP
  exact e_iret dX12_voiced_15 rfl (hp _ ⟨τ, hR, hF, h6, h40, h7, hE⟩)
set_option maxRecDepth 20000 in
theorem s_vc0_6 (D : En) {h0 h : AH} {N : Nat → Int32} {σ0 : Nat → Nat → Int32} {τ0 : Nat → Int32} {sp : Nat} {t : TS} (hsp : sp < 10) (hkd : N (112 + 7 * sp + 0) = nI 6) (hA : TA h0 h N σ0 τ0 sp t) (x : Int32) : Sp D 7 mX12_voiced [.ref 82, .int (nI 0), .int x] h 0 0 (some (.int (hdF 6 (nI sp) (x) (t)).1)) (fun h' => TA h0 h' N σ0 τ0 sp (hdF 6 (nI sp) (x) (t)).2) := by
  obtain ⟨τ, hR, hF, h6, h40, h7, hE⟩ := hA
  intro post hp
  show Ev D 7 mX12_voiced 0 [some (.ref (82)), some (.int (nI (0))), some (.int (x))] [] h 0 0 post
  refine e_aload_n dX12_voiced_0 rfl ?_
  refine e_aload_n dX12_voiced_1 rfl ?_
  refine e_aload_n dX12_voiced_2 rfl ?_
  refine e_get dX12_voiced_3 fl_X12_302_12 hR.1 rfl ?_
  refine e_top (nI (sp)) (h7) ?_
  refine e_iconst (nI (0)) dX12_voiced_6 (by decide) ?_
  refine c_V2iR (N := mX12_thing) dX12_voiced_7 lv_X12_136 mo_X12_thing hR.cn (Nat.le_of_ble_eq_true rfl) (Nat.le_of_ble_eq_true rfl) (by decide) (s_thing D hR (sp) (0) (by omega) (by omega)) ?_
  refine e_top (nI (6)) (hkd) ?_
  refine e_iload_n dX12_voiced_10 rfl ?_
  refine e_iload_n dX12_voiced_11 rfl ?_
  refine c_V3i (nc := 0) (ns := 0) (mc := 0) (ms := 0) (N := mX12_bodyFrom) dX12_voiced_12 lv_X12_305 mo_X12_bodyFrom hR.cn (Nat.le_of_ble_eq_true rfl) (Nat.le_of_ble_eq_true rfl) (by decide) (s_bf60 D hsp hkd ⟨τ, hR, hF, h6, h40, h7, hE⟩ x) (fun h hP => ?_)
  obtain ⟨τ, hR, hF, h6, h40, h7, hE⟩ := hP
  exact e_iret dX12_voiced_15 rfl (hp _ ⟨τ, hR, hF, h6, h40, h7, hE⟩)
theorem s_vc0 (D : En) {h0 h : AH} {N : Nat → Int32} {σ0 : Nat → Nat → Int32} {τ0 : Nat → Int32} {sp K : Nat} {t : TS} (hsp : sp < 10) (hkd : N (112 + 7 * sp + 0) = nI K) (hA : TA h0 h N σ0 τ0 sp t) (x : Int32) (hK7 : K < 7) : Sp D 7 mX12_voiced [.ref 82, .int (nI 0), .int x] h 0 0 (some (.int (hdF K (nI sp) (x) (t)).1)) (fun h' => TA h0 h' N σ0 τ0 sp (hdF K (nI sp) (x) (t)).2) := by
  rcases (show K = 0 ∨ K = 1 ∨ K = 2 ∨ K = 3 ∨ K = 4 ∨ K = 5 ∨ K = 6 by omega) with rfl | rfl | rfl | rfl | rfl | rfl | rfl
  · exact s_vc0_0 D hsp hkd hA x
  · exact s_vc0_1 D hsp hkd hA x
  · exact s_vc0_2 D hsp hkd hA x
  · exact s_vc0_3 D hsp hkd hA x
  · exact s_vc0_4 D hsp hkd hA x
  · exact s_vc0_5 D hsp hkd hA x
  · exact s_vc0_6 D hsp hkd hA x
set_option maxRecDepth 20000 in
theorem s_bd02 (D : En) {h0 h : AH} {N : Nat → Int32} {σ0 : Nat → Nat → Int32} {τ0 : Nat → Int32} {sp K : Nat} {t : TS} (hsp : sp < 10) (hkd : N (112 + 7 * sp + 0) = nI K) (hA : TA h0 h N σ0 τ0 sp t) (x : Int32) : Sp D 1 mX12_body [.ref (82), .int (nI (0)), .int (nI (2)), .int (x)] h 0 0 (some (.int ((flB (N (112 + 7 * sp + 3)) x t).1))) (fun h' => TA h0 h' N σ0 τ0 sp (flB (N (112 + 7 * sp + 3)) x t).2) := by
  obtain ⟨τ, hR, hF, h6, h40, h7, hE⟩ := hA
  intro post hp
  show Ev D 1 mX12_body 0 [some (.ref (82)), some (.int (nI (0))), some (.int (nI (2))), some (.int (x)), none] [] h 0 0 post
  refine e_iconst (nI (4)) dX12_body_0 (by decide) ?_
  refine e_iload_n dX12_body_1 rfl ?_
  refine e_imulN dX12_body_2 ?_
  refine e_iload_n dX12_body_3 rfl ?_
  refine e_iaddN dX12_body_4 ?_
  refine e_tableIn (off := 131) 136 dX12_body_5 (by decide) (by decide) (by decide) (by decide) ?_
  refine e_aload_n dX12_body_136 rfl ?_
  refine e_bipush (nI (12)) dX12_body_137 (by decide) ?_
  refine c_V1v (nc := 0) (ns := 0) (mc := 0) (ms := 0) (N := mX12_began) dX12_body_139 lv_X12_314 mo_X12_began hR.cn (Nat.le_of_ble_eq_true rfl) (Nat.le_of_ble_eq_true rfl) (by decide) (s_began D (nI (12)) ⟨τ, hR, hF, h6, h40, h7, hE⟩) (fun h hP => ?_)
  obtain ⟨τ, hR, hF, h6, h40, h7, hE⟩ := hP
  refine e_iload_n dX12_body_142 rfl ?_
  refine e_aload_n dX12_body_143 rfl ?_
  refine e_aload_n dX12_body_144 rfl ?_
  refine e_get dX12_body_145 fl_X12_302_12 hR.1 rfl ?_
  refine e_top (nI (sp)) (h7) ?_
  refine e_iconst (nI (3)) dX12_body_148 (by decide) ?_
  refine c_V2iR (N := mX12_thing) dX12_body_149 lv_X12_136 mo_X12_thing hR.cn (Nat.le_of_ble_eq_true rfl) (Nat.le_of_ble_eq_true rfl) (by decide) (s_thing D hR (sp) (3) (by omega) (by omega)) ?_
  refine e_isub dX12_body_152 ?_
  exact e_iret dX12_body_153 rfl (hp _ ⟨τ, hR, hF, h6, h40, h7, hE⟩)
set_option maxRecDepth 20000 in
theorem s_bf02 (D : En) {h0 h : AH} {N : Nat → Int32} {σ0 : Nat → Nat → Int32} {τ0 : Nat → Int32} {sp K : Nat} {t : TS} (hsp : sp < 10) (hkd : N (112 + 7 * sp + 0) = nI K) (hA : TA h0 h N σ0 τ0 sp t) (x : Int32) : Sp D 2 mX12_bodyFrom [.ref (82), .int (nI (0)), .int (nI (2)), .int (x)] h 0 0 (some (.int ((flF 0 (N (112 + 7 * sp + 3)) (x) (t)).1))) (fun h' => TA h0 h' N σ0 τ0 sp (flF 0 (N (112 + 7 * sp + 3)) (x) (t)).2) := by
  obtain ⟨τ, hR, hF, h6, h40, h7, hE⟩ := hA
  intro post hp
  show Ev D 2 mX12_bodyFrom 0 [some (.ref (82)), some (.int (nI (0))), some (.int (nI (2))), some (.int (x)), none] [] h 0 0 post
  refine e_iload_n dX12_bodyFrom_0 rfl ?_
  refine e_istore dX12_bodyFrom_1 (by decide) ?_
  refine e_iload dX12_bodyFrom_3 rfl ?_
  refine e_iload_n dX12_bodyFrom_5 rfl ?_
  refine c_S2iR (N := mX12_hasOwn) dX12_bodyFrom_6 ls_X12_308 mo_X12_hasOwn  (Nat.le_of_ble_eq_true rfl) (Nat.le_of_ble_eq_true rfl) (by decide) (s_own02 D) ?_
  refine e_if_neN 22 dX12_bodyFrom_9 (by decide) (by omega) (fun hcq9 => ?_) (fun hcq9 => absurd hcq9 (by decide))
  refine e_aload_n dX12_bodyFrom_22 rfl ?_
  refine e_iload dX12_bodyFrom_23 rfl ?_
  refine e_iload_n dX12_bodyFrom_25 rfl ?_
  refine e_iload_n dX12_bodyFrom_26 rfl ?_
  refine c_V3i (nc := 0) (ns := 0) (mc := 0) (ms := 0) (N := mX12_body) dX12_bodyFrom_27 lv_X12_311 mo_X12_body hR.cn (Nat.le_of_ble_eq_true rfl) (Nat.le_of_ble_eq_true rfl) (by decide) (s_bd02 D hsp hkd ⟨τ, hR, hF, h6, h40, h7, hE⟩ x) (fun h hP => ?_)
  obtain ⟨τ, hR, hF, h6, h40, h7, hE⟩ := hP
  exact e_iret dX12_bodyFrom_30 rfl (hp _ ⟨τ, hR, hF, h6, h40, h7, hE⟩)
set_option maxRecDepth 20000 in
theorem s_bf12 (D : En) {h0 h : AH} {N : Nat → Int32} {σ0 : Nat → Nat → Int32} {τ0 : Nat → Int32} {sp K : Nat} {t : TS} (hsp : sp < 10) (hkd : N (112 + 7 * sp + 0) = nI K) (hA : TA h0 h N σ0 τ0 sp t) (x : Int32) : Sp D 2 mX12_bodyFrom [.ref (82), .int (nI (1)), .int (nI (2)), .int (x)] h 0 0 (some (.int ((flF 1 (N (112 + 7 * sp + 3)) (x) (t)).1))) (fun h' => TA h0 h' N σ0 τ0 sp (flF 1 (N (112 + 7 * sp + 3)) (x) (t)).2) := by
  obtain ⟨τ, hR, hF, h6, h40, h7, hE⟩ := hA
  intro post hp
  show Ev D 2 mX12_bodyFrom 0 [some (.ref (82)), some (.int (nI (1))), some (.int (nI (2))), some (.int (x)), none] [] h 0 0 post
  refine e_iload_n dX12_bodyFrom_0 rfl ?_
  refine e_istore dX12_bodyFrom_1 (by decide) ?_
  refine e_iload dX12_bodyFrom_3 rfl ?_
  refine e_iload_n dX12_bodyFrom_5 rfl ?_
  refine c_S2iR (N := mX12_hasOwn) dX12_bodyFrom_6 ls_X12_308 mo_X12_hasOwn  (Nat.le_of_ble_eq_true rfl) (Nat.le_of_ble_eq_true rfl) (by decide) (s_own12 D) ?_
  refine e_if_neN 22 dX12_bodyFrom_9 (by decide) (by omega) (fun hcq9 => absurd hcq9 (by decide)) (fun hcq9 => ?_)
  refine e_iload dX12_bodyFrom_12 rfl ?_
  refine c_S1iR (N := mX12_above) dX12_bodyFrom_14 ls_X12_154 mo_X12_above  (Nat.le_of_ble_eq_true rfl) (Nat.le_of_ble_eq_true rfl) (by decide) (s_abv1 D) ?_
  refine e_istore dX12_bodyFrom_17 (by decide) ?_
  refine e_goto 3 dX12_bodyFrom_19 (by decide) ?_
  refine e_iload dX12_bodyFrom_3 rfl ?_
  refine e_iload_n dX12_bodyFrom_5 rfl ?_
  refine c_S2iR (N := mX12_hasOwn) dX12_bodyFrom_6 ls_X12_308 mo_X12_hasOwn  (Nat.le_of_ble_eq_true rfl) (Nat.le_of_ble_eq_true rfl) (by decide) (s_own02 D) ?_
  refine e_if_neN 22 dX12_bodyFrom_9 (by decide) (by omega) (fun hcq9 => ?_) (fun hcq9 => absurd hcq9 (by decide))
  refine e_aload_n dX12_bodyFrom_22 rfl ?_
  refine e_iload dX12_bodyFrom_23 rfl ?_
  refine e_iload_n dX12_bodyFrom_25 rfl ?_
  refine e_iload_n dX12_bodyFrom_26 rfl ?_
  refine c_V3i (nc := 0) (ns := 0) (mc := 0) (ms := 0) (N := mX12_body) dX12_bodyFrom_27 lv_X12_311 mo_X12_body hR.cn (Nat.le_of_ble_eq_true rfl) (Nat.le_of_ble_eq_true rfl) (by decide) (s_bd02 D hsp hkd ⟨τ, hR, hF, h6, h40, h7, hE⟩ x) (fun h hP => ?_)
  obtain ⟨τ, hR, hF, h6, h40, h7, hE⟩ := hP
  exact e_iret dX12_bodyFrom_30 rfl (hp _ ⟨τ, hR, hF, h6, h40, h7, hE⟩)
set_option maxRecDepth 20000 in
theorem s_bf22 (D : En) {h0 h : AH} {N : Nat → Int32} {σ0 : Nat → Nat → Int32} {τ0 : Nat → Int32} {sp K : Nat} {t : TS} (hsp : sp < 10) (hkd : N (112 + 7 * sp + 0) = nI K) (hA : TA h0 h N σ0 τ0 sp t) (x : Int32) : Sp D 2 mX12_bodyFrom [.ref (82), .int (nI (2)), .int (nI (2)), .int (x)] h 0 0 (some (.int ((flF 2 (N (112 + 7 * sp + 3)) (x) (t)).1))) (fun h' => TA h0 h' N σ0 τ0 sp (flF 2 (N (112 + 7 * sp + 3)) (x) (t)).2) := by
  obtain ⟨τ, hR, hF, h6, h40, h7, hE⟩ := hA
  intro post hp
  show Ev D 2 mX12_bodyFrom 0 [some (.ref (82)), some (.int (nI (2))), some (.int (nI (2))), some (.int (x)), none] [] h 0 0 post
  refine e_iload_n dX12_bodyFrom_0 rfl ?_
  refine e_istore dX12_bodyFrom_1 (by decide) ?_
  refine e_iload dX12_bodyFrom_3 rfl ?_
  refine e_iload_n dX12_bodyFrom_5 rfl ?_
  refine c_S2iR (N := mX12_hasOwn) dX12_bodyFrom_6 ls_X12_308 mo_X12_hasOwn  (Nat.le_of_ble_eq_true rfl) (Nat.le_of_ble_eq_true rfl) (by decide) (s_own22 D) ?_
  refine e_if_neN 22 dX12_bodyFrom_9 (by decide) (by omega) (fun hcq9 => absurd hcq9 (by decide)) (fun hcq9 => ?_)
  refine e_iload dX12_bodyFrom_12 rfl ?_
  refine c_S1iR (N := mX12_above) dX12_bodyFrom_14 ls_X12_154 mo_X12_above  (Nat.le_of_ble_eq_true rfl) (Nat.le_of_ble_eq_true rfl) (by decide) (s_abv2 D) ?_
  refine e_istore dX12_bodyFrom_17 (by decide) ?_
  refine e_goto 3 dX12_bodyFrom_19 (by decide) ?_
  refine e_iload dX12_bodyFrom_3 rfl ?_
  refine e_iload_n dX12_bodyFrom_5 rfl ?_
  refine c_S2iR (N := mX12_hasOwn) dX12_bodyFrom_6 ls_X12_308 mo_X12_hasOwn  (Nat.le_of_ble_eq_true rfl) (Nat.le_of_ble_eq_true rfl) (by decide) (s_own02 D) ?_
  refine e_if_neN 22 dX12_bodyFrom_9 (by decide) (by omega) (fun hcq9 => ?_) (fun hcq9 => absurd hcq9 (by decide))
  refine e_aload_n dX12_bodyFrom_22 rfl ?_
  refine e_iload dX12_bodyFrom_23 rfl ?_
  refine e_iload_n dX12_bodyFrom_25 rfl ?_
  refine e_iload_n dX12_bodyFrom_26 rfl ?_
  refine c_V3i (nc := 0) (ns := 0) (mc := 0) (ms := 0) (N := mX12_body) dX12_bodyFrom_27 lv_X12_311 mo_X12_body hR.cn (Nat.le_of_ble_eq_true rfl) (Nat.le_of_ble_eq_true rfl) (by decide) (s_bd02 D hsp hkd ⟨τ, hR, hF, h6, h40, h7, hE⟩ x) (fun h hP => ?_)
  obtain ⟨τ, hR, hF, h6, h40, h7, hE⟩ := hP
  exact e_iret dX12_bodyFrom_30 rfl (hp _ ⟨τ, hR, hF, h6, h40, h7, hE⟩)
set_option maxRecDepth 20000 in
theorem s_bf42 (D : En) {h0 h : AH} {N : Nat → Int32} {σ0 : Nat → Nat → Int32} {τ0 : Nat → Int32} {sp K : Nat} {t : TS} (hsp : sp < 10) (hkd : N (112 + 7 * sp + 0) = nI K) (hA : TA h0 h N σ0 τ0 sp t) (x : Int32) : Sp D 2 mX12_bodyFrom [.ref (82), .int (nI (4)), .int (nI (2)), .int (x)] h 0 0 (some (.int ((flF 4 (N (112 + 7 * sp + 3)) (x) (t)).1))) (fun h' => TA h0 h' N σ0 τ0 sp (flF 4 (N (112 + 7 * sp + 3)) (x) (t)).2) := by
  obtain ⟨τ, hR, hF, h6, h40, h7, hE⟩ := hA
  intro post hp
  show Ev D 2 mX12_bodyFrom 0 [some (.ref (82)), some (.int (nI (4))), some (.int (nI (2))), some (.int (x)), none] [] h 0 0 post
  refine e_iload_n dX12_bodyFrom_0 rfl ?_
  refine e_istore dX12_bodyFrom_1 (by decide) ?_
  refine e_iload dX12_bodyFrom_3 rfl ?_
  refine e_iload_n dX12_bodyFrom_5 rfl ?_
  refine c_S2iR (N := mX12_hasOwn) dX12_bodyFrom_6 ls_X12_308 mo_X12_hasOwn  (Nat.le_of_ble_eq_true rfl) (Nat.le_of_ble_eq_true rfl) (by decide) (s_own42 D) ?_
  refine e_if_neN 22 dX12_bodyFrom_9 (by decide) (by omega) (fun hcq9 => absurd hcq9 (by decide)) (fun hcq9 => ?_)
  refine e_iload dX12_bodyFrom_12 rfl ?_
  refine c_S1iR (N := mX12_above) dX12_bodyFrom_14 ls_X12_154 mo_X12_above  (Nat.le_of_ble_eq_true rfl) (Nat.le_of_ble_eq_true rfl) (by decide) (s_abv4 D) ?_
  refine e_istore dX12_bodyFrom_17 (by decide) ?_
  refine e_goto 3 dX12_bodyFrom_19 (by decide) ?_
  refine e_iload dX12_bodyFrom_3 rfl ?_
  refine e_iload_n dX12_bodyFrom_5 rfl ?_
  refine c_S2iR (N := mX12_hasOwn) dX12_bodyFrom_6 ls_X12_308 mo_X12_hasOwn  (Nat.le_of_ble_eq_true rfl) (Nat.le_of_ble_eq_true rfl) (by decide) (s_own02 D) ?_
  refine e_if_neN 22 dX12_bodyFrom_9 (by decide) (by omega) (fun hcq9 => ?_) (fun hcq9 => absurd hcq9 (by decide))
  refine e_aload_n dX12_bodyFrom_22 rfl ?_
  refine e_iload dX12_bodyFrom_23 rfl ?_
  refine e_iload_n dX12_bodyFrom_25 rfl ?_
  refine e_iload_n dX12_bodyFrom_26 rfl ?_
  refine c_V3i (nc := 0) (ns := 0) (mc := 0) (ms := 0) (N := mX12_body) dX12_bodyFrom_27 lv_X12_311 mo_X12_body hR.cn (Nat.le_of_ble_eq_true rfl) (Nat.le_of_ble_eq_true rfl) (by decide) (s_bd02 D hsp hkd ⟨τ, hR, hF, h6, h40, h7, hE⟩ x) (fun h hP => ?_)
  obtain ⟨τ, hR, hF, h6, h40, h7, hE⟩ := hP
  exact e_iret dX12_bodyFrom_30 rfl (hp _ ⟨τ, hR, hF, h6, h40, h7, hE⟩)
set_option maxRecDepth 20000 in
theorem s_bf52 (D : En) {h0 h : AH} {N : Nat → Int32} {σ0 : Nat → Nat → Int32} {τ0 : Nat → Int32} {sp K : Nat} {t : TS} (hsp : sp < 10) (hkd : N (112 + 7 * sp + 0) = nI K) (hA : TA h0 h N σ0 τ0 sp t) (x : Int32) : Sp D 2 mX12_bodyFrom [.ref (82), .int (nI (5)), .int (nI (2)), .int (x)] h 0 0 (some (.int ((flF 5 (N (112 + 7 * sp + 3)) (x) (t)).1))) (fun h' => TA h0 h' N σ0 τ0 sp (flF 5 (N (112 + 7 * sp + 3)) (x) (t)).2) := by
  obtain ⟨τ, hR, hF, h6, h40, h7, hE⟩ := hA
  intro post hp
  show Ev D 2 mX12_bodyFrom 0 [some (.ref (82)), some (.int (nI (5))), some (.int (nI (2))), some (.int (x)), none] [] h 0 0 post
  refine e_iload_n dX12_bodyFrom_0 rfl ?_
  refine e_istore dX12_bodyFrom_1 (by decide) ?_
  refine e_iload dX12_bodyFrom_3 rfl ?_
  refine e_iload_n dX12_bodyFrom_5 rfl ?_
  refine c_S2iR (N := mX12_hasOwn) dX12_bodyFrom_6 ls_X12_308 mo_X12_hasOwn  (Nat.le_of_ble_eq_true rfl) (Nat.le_of_ble_eq_true rfl) (by decide) (s_own52 D) ?_
  refine e_if_neN 22 dX12_bodyFrom_9 (by decide) (by omega) (fun hcq9 => absurd hcq9 (by decide)) (fun hcq9 => ?_)
  refine e_iload dX12_bodyFrom_12 rfl ?_
  refine c_S1iR (N := mX12_above) dX12_bodyFrom_14 ls_X12_154 mo_X12_above  (Nat.le_of_ble_eq_true rfl) (Nat.le_of_ble_eq_true rfl) (by decide) (s_abv5 D) ?_
  refine e_istore dX12_bodyFrom_17 (by decide) ?_
  refine e_goto 3 dX12_bodyFrom_19 (by decide) ?_
  refine e_iload dX12_bodyFrom_3 rfl ?_
  refine e_iload_n dX12_bodyFrom_5 rfl ?_
  refine c_S2iR (N := mX12_hasOwn) dX12_bodyFrom_6 ls_X12_308 mo_X12_hasOwn  (Nat.le_of_ble_eq_true rfl) (Nat.le_of_ble_eq_true rfl) (by decide) (s_own12 D) ?_
  refine e_if_neN 22 dX12_bodyFrom_9 (by decide) (by omega) (fun hcq9 => absurd hcq9 (by decide)) (fun hcq9 => ?_)
  refine e_iload dX12_bodyFrom_12 rfl ?_
  refine c_S1iR (N := mX12_above) dX12_bodyFrom_14 ls_X12_154 mo_X12_above  (Nat.le_of_ble_eq_true rfl) (Nat.le_of_ble_eq_true rfl) (by decide) (s_abv1 D) ?_
  refine e_istore dX12_bodyFrom_17 (by decide) ?_
  refine e_goto 3 dX12_bodyFrom_19 (by decide) ?_
  refine e_iload dX12_bodyFrom_3 rfl ?_
  refine e_iload_n dX12_bodyFrom_5 rfl ?_
  refine c_S2iR (N := mX12_hasOwn) dX12_bodyFrom_6 ls_X12_308 mo_X12_hasOwn  (Nat.le_of_ble_eq_true rfl) (Nat.le_of_ble_eq_true rfl) (by decide) (s_own02 D) ?_
  refine e_if_neN 22 dX12_bodyFrom_9 (by decide) (by omega) (fun hcq9 => ?_) (fun hcq9 => absurd hcq9 (by decide))
  refine e_aload_n dX12_bodyFrom_22 rfl ?_
  refine e_iload dX12_bodyFrom_23 rfl ?_
  refine e_iload_n dX12_bodyFrom_25 rfl ?_
  refine e_iload_n dX12_bodyFrom_26 rfl ?_
  refine c_V3i (nc := 0) (ns := 0) (mc := 0) (ms := 0) (N := mX12_body) dX12_bodyFrom_27 lv_X12_311 mo_X12_body hR.cn (Nat.le_of_ble_eq_true rfl) (Nat.le_of_ble_eq_true rfl) (by decide) (s_bd02 D hsp hkd ⟨τ, hR, hF, h6, h40, h7, hE⟩ x) (fun h hP => ?_)
  obtain ⟨τ, hR, hF, h6, h40, h7, hE⟩ := hP
  exact e_iret dX12_bodyFrom_30 rfl (hp _ ⟨τ, hR, hF, h6, h40, h7, hE⟩)
set_option maxRecDepth 20000 in
theorem s_bf62 (D : En) {h0 h : AH} {N : Nat → Int32} {σ0 : Nat → Nat → Int32} {τ0 : Nat → Int32} {sp K : Nat} {t : TS} (hsp : sp < 10) (hkd : N (112 + 7 * sp + 0) = nI K) (hA : TA h0 h N σ0 τ0 sp t) (x : Int32) : Sp D 2 mX12_bodyFrom [.ref (82), .int (nI (6)), .int (nI (2)), .int (x)] h 0 0 (some (.int ((flF 6 (N (112 + 7 * sp + 3)) (x) (t)).1))) (fun h' => TA h0 h' N σ0 τ0 sp (flF 6 (N (112 + 7 * sp + 3)) (x) (t)).2) := by
  obtain ⟨τ, hR, hF, h6, h40, h7, hE⟩ := hA
  intro post hp
  show Ev D 2 mX12_bodyFrom 0 [some (.ref (82)), some (.int (nI (6))), some (.int (nI (2))), some (.int (x)), none] [] h 0 0 post
  refine e_iload_n dX12_bodyFrom_0 rfl ?_
  refine e_istore dX12_bodyFrom_1 (by decide) ?_
  refine e_iload dX12_bodyFrom_3 rfl ?_
  refine e_iload_n dX12_bodyFrom_5 rfl ?_
  refine c_S2iR (N := mX12_hasOwn) dX12_bodyFrom_6 ls_X12_308 mo_X12_hasOwn  (Nat.le_of_ble_eq_true rfl) (Nat.le_of_ble_eq_true rfl) (by decide) (s_own62 D) ?_
  refine e_if_neN 22 dX12_bodyFrom_9 (by decide) (by omega) (fun hcq9 => absurd hcq9 (by decide)) (fun hcq9 => ?_)
  refine e_iload dX12_bodyFrom_12 rfl ?_
  refine c_S1iR (N := mX12_above) dX12_bodyFrom_14 ls_X12_154 mo_X12_above  (Nat.le_of_ble_eq_true rfl) (Nat.le_of_ble_eq_true rfl) (by decide) (s_abv6 D) ?_
  refine e_istore dX12_bodyFrom_17 (by decide) ?_
  refine e_goto 3 dX12_bodyFrom_19 (by decide) ?_
  refine e_iload dX12_bodyFrom_3 rfl ?_
  refine e_iload_n dX12_bodyFrom_5 rfl ?_
  refine c_S2iR (N := mX12_hasOwn) dX12_bodyFrom_6 ls_X12_308 mo_X12_hasOwn  (Nat.le_of_ble_eq_true rfl) (Nat.le_of_ble_eq_true rfl) (by decide) (s_own42 D) ?_
  refine e_if_neN 22 dX12_bodyFrom_9 (by decide) (by omega) (fun hcq9 => absurd hcq9 (by decide)) (fun hcq9 => ?_)
  refine e_iload dX12_bodyFrom_12 rfl ?_
  refine c_S1iR (N := mX12_above) dX12_bodyFrom_14 ls_X12_154 mo_X12_above  (Nat.le_of_ble_eq_true rfl) (Nat.le_of_ble_eq_true rfl) (by decide) (s_abv4 D) ?_
  refine e_istore dX12_bodyFrom_17 (by decide) ?_
  refine e_goto 3 dX12_bodyFrom_19 (by decide) ?_
  refine e_iload dX12_bodyFrom_3 rfl ?_
  refine e_iload_n dX12_bodyFrom_5 rfl ?_
  refine c_S2iR (N := mX12_hasOwn) dX12_bodyFrom_6 ls_X12_308 mo_X12_hasOwn  (Nat.le_of_ble_eq_true rfl) (Nat.le_of_ble_eq_true rfl) (by decide) (s_own02 D) ?_
  refine e_if_neN 22 dX12_bodyFrom_9 (by decide) (by omega) (fun hcq9 => ?_) (fun hcq9 => absurd hcq9 (by decide))
  refine e_aload_n dX12_bodyFrom_22 rfl ?_
  refine e_iload dX12_bodyFrom_23 rfl ?_
  refine e_iload_n dX12_bodyFrom_25 rfl ?_
  refine e_iload_n dX12_bodyFrom_26 rfl ?_
  refine c_V3i (nc := 0) (ns := 0) (mc := 0) (ms := 0) (N := mX12_body) dX12_bodyFrom_27 lv_X12_311 mo_X12_body hR.cn (Nat.le_of_ble_eq_true rfl) (Nat.le_of_ble_eq_true rfl) (by decide) (s_bd02 D hsp hkd ⟨τ, hR, hF, h6, h40, h7, hE⟩ x) (fun h hP => ?_)
  obtain ⟨τ, hR, hF, h6, h40, h7, hE⟩ := hP
  exact e_iret dX12_bodyFrom_30 rfl (hp _ ⟨τ, hR, hF, h6, h40, h7, hE⟩)
set_option maxRecDepth 20000 in
theorem s_bd32 (D : En) {h0 h : AH} {N : Nat → Int32} {σ0 : Nat → Nat → Int32} {τ0 : Nat → Int32} {sp K : Nat} {t : TS} (hsp : sp < 10) (hkd : N (112 + 7 * sp + 0) = nI K) (hA : TA h0 h N σ0 τ0 sp t) (x : Int32) : Sp D 3 mX12_body [.ref (82), .int (nI (3)), .int (nI (2)), .int (x)] h 0 0 (some (.int ((flF 3 (N (112 + 7 * sp + 3)) x t).1))) (fun h' => TA h0 h' N σ0 τ0 sp (flF 3 (N (112 + 7 * sp + 3)) x t).2) := by
  obtain ⟨τ, hR, hF, h6, h40, h7, hE⟩ := hA
  intro post hp
  show Ev D 3 mX12_body 0 [some (.ref (82)), some (.int (nI (3))), some (.int (nI (2))), some (.int (x)), none] [] h 0 0 post
  refine e_iconst (nI (4)) dX12_body_0 (by decide) ?_
  refine e_iload_n dX12_body_1 rfl ?_
  refine e_imulN dX12_body_2 ?_
  refine e_iload_n dX12_body_3 rfl ?_
  refine e_iaddN dX12_body_4 ?_
  refine e_tableIn (off := 214) 219 dX12_body_5 (by decide) (by decide) (by decide) (by decide) ?_
  refine e_aload_n dX12_body_219 rfl ?_
  refine e_bipush (nI (40)) dX12_body_220 (by decide) ?_
  refine c_V1v (nc := 0) (ns := 0) (mc := 0) (ms := 0) (N := mX12_began) dX12_body_222 lv_X12_314 mo_X12_began hR.cn (Nat.le_of_ble_eq_true rfl) (Nat.le_of_ble_eq_true rfl) (by decide) (s_began D (nI (40)) ⟨τ, hR, hF, h6, h40, h7, hE⟩) (fun h hP => ?_)
  obtain ⟨τ, hR, hF, h6, h40, h7, hE⟩ := hP
  refine e_aload_n dX12_body_225 rfl ?_
  refine e_iconst (nI (2)) dX12_body_226 (by decide) ?_
  refine e_iconst (nI (2)) dX12_body_227 (by decide) ?_
  refine e_iload_n dX12_body_228 rfl ?_
  refine c_V3i (nc := 0) (ns := 0) (mc := 0) (ms := 0) (N := mX12_bodyFrom) dX12_body_229 lv_X12_305 mo_X12_bodyFrom hR.cn (Nat.le_of_ble_eq_true rfl) (Nat.le_of_ble_eq_true rfl) (by decide) (s_bf22 D hsp hkd ⟨τ, hR, hF, h6, h40, h7, hE⟩ ((x))) (fun h hP => ?_)
  obtain ⟨τ, hR, hF, h6, h40, h7, hE⟩ := hP
  refine e_ineg dX12_body_232 ?_
  exact e_iret dX12_body_233 rfl (hp _ ⟨τ, hR, hF, h6, h40, h7, hE⟩)
set_option maxRecDepth 20000 in
theorem s_bf32 (D : En) {h0 h : AH} {N : Nat → Int32} {σ0 : Nat → Nat → Int32} {τ0 : Nat → Int32} {sp K : Nat} {t : TS} (hsp : sp < 10) (hkd : N (112 + 7 * sp + 0) = nI K) (hA : TA h0 h N σ0 τ0 sp t) (x : Int32) : Sp D 4 mX12_bodyFrom [.ref (82), .int (nI (3)), .int (nI (2)), .int (x)] h 0 0 (some (.int ((flF 3 (N (112 + 7 * sp + 3)) (x) (t)).1))) (fun h' => TA h0 h' N σ0 τ0 sp (flF 3 (N (112 + 7 * sp + 3)) (x) (t)).2) := by
  obtain ⟨τ, hR, hF, h6, h40, h7, hE⟩ := hA
  intro post hp
  show Ev D 4 mX12_bodyFrom 0 [some (.ref (82)), some (.int (nI (3))), some (.int (nI (2))), some (.int (x)), none] [] h 0 0 post
  refine e_iload_n dX12_bodyFrom_0 rfl ?_
  refine e_istore dX12_bodyFrom_1 (by decide) ?_
  refine e_iload dX12_bodyFrom_3 rfl ?_
  refine e_iload_n dX12_bodyFrom_5 rfl ?_
  refine c_S2iR (N := mX12_hasOwn) dX12_bodyFrom_6 ls_X12_308 mo_X12_hasOwn  (Nat.le_of_ble_eq_true rfl) (Nat.le_of_ble_eq_true rfl) (by decide) (s_own32 D) ?_
  refine e_if_neN 22 dX12_bodyFrom_9 (by decide) (by omega) (fun hcq9 => ?_) (fun hcq9 => absurd hcq9 (by decide))
  refine e_aload_n dX12_bodyFrom_22 rfl ?_
  refine e_iload dX12_bodyFrom_23 rfl ?_
  refine e_iload_n dX12_bodyFrom_25 rfl ?_
  refine e_iload_n dX12_bodyFrom_26 rfl ?_
  refine c_V3i (nc := 0) (ns := 0) (mc := 0) (ms := 0) (N := mX12_body) dX12_bodyFrom_27 lv_X12_311 mo_X12_body hR.cn (Nat.le_of_ble_eq_true rfl) (Nat.le_of_ble_eq_true rfl) (by decide) (s_bd32 D hsp hkd ⟨τ, hR, hF, h6, h40, h7, hE⟩ x) (fun h hP => ?_)
  obtain ⟨τ, hR, hF, h6, h40, h7, hE⟩ := hP
  exact e_iret dX12_bodyFrom_30 rfl (hp _ ⟨τ, hR, hF, h6, h40, h7, hE⟩)
set_option maxRecDepth 20000 in
theorem s_vc2_0 (D : En) {h0 h : AH} {N : Nat → Int32} {σ0 : Nat → Nat → Int32} {τ0 : Nat → Int32} {sp : Nat} {t : TS} (hsp : sp < 10) (hkd : N (112 + 7 * sp + 0) = nI 0) (hA : TA h0 h N σ0 τ0 sp t) (x : Int32) : Sp D 5 mX12_voiced [.ref 82, .int (nI 2), .int x] h 0 0 (some (.int (flF 0 (N (112 + 7 * sp + 3)) (x) (t)).1)) (fun h' => TA h0 h' N σ0 τ0 sp (flF 0 (N (112 + 7 * sp + 3)) (x) (t)).2) := by
  obtain ⟨τ, hR, hF, h6, h40, h7, hE⟩ := hA
  intro post hp
  show Ev D 5 mX12_voiced 0 [some (.ref (82)), some (.int (nI (2))), some (.int (x))] [] h 0 0 post
  refine e_aload_n dX12_voiced_0 rfl ?_
  refine e_aload_n dX12_voiced_1 rfl ?_
  refine e_aload_n dX12_voiced_2 rfl ?_
  refine e_get dX12_voiced_3 fl_X12_302_12 hR.1 rfl ?_
  refine e_top (nI (sp)) (h7) ?_
  refine e_iconst (nI (0)) dX12_voiced_6 (by decide) ?_
  refine c_V2iR (N := mX12_thing) dX12_voiced_7 lv_X12_136 mo_X12_thing hR.cn (Nat.le_of_ble_eq_true rfl) (Nat.le_of_ble_eq_true rfl) (by decide) (s_thing D hR (sp) (0) (by omega) (by omega)) ?_
  refine e_top (nI (0)) (hkd) ?_
  refine e_iload_n dX12_voiced_10 rfl ?_
  refine e_iload_n dX12_voiced_11 rfl ?_
  refine c_V3i (nc := 0) (ns := 0) (mc := 0) (ms := 0) (N := mX12_bodyFrom) dX12_voiced_12 lv_X12_305 mo_X12_bodyFrom hR.cn (Nat.le_of_ble_eq_true rfl) (Nat.le_of_ble_eq_true rfl) (by decide) (s_bf02 D hsp hkd ⟨τ, hR, hF, h6, h40, h7, hE⟩ x) (fun h hP => ?_)
  obtain ⟨τ, hR, hF, h6, h40, h7, hE⟩ := hP
  exact e_iret dX12_voiced_15 rfl (hp _ ⟨τ, hR, hF, h6, h40, h7, hE⟩)
set_option maxRecDepth 20000 in
theorem s_vc2_1 (D : En) {h0 h : AH} {N : Nat → Int32} {σ0 : Nat → Nat → Int32} {τ0 : Nat → Int32} {sp : Nat} {t : TS} (hsp : sp < 10) (hkd : N (112 + 7 * sp + 0) = nI 1) (hA : TA h0 h N σ0 τ0 sp t) (x : Int32) : Sp D 5 mX12_voiced [.ref 82, .int (nI 2), .int x] h 0 0 (some (.int (flF 1 (N (112 + 7 * sp + 3)) (x) (t)).1)) (fun h' => TA h0 h' N σ0 τ0 sp (flF 1 (N (112 + 7 * sp + 3)) (x) (t)).2) := by
  obtain ⟨τ, hR, hF, h6, h40, h7, hE⟩ := hA
  intro post hp
  show Ev D 5 mX12_voiced 0 [some (.ref (82)), some (.int (nI (2))), some (.int (x))] [] h 0 0 post
  refine e_aload_n dX12_voiced_0 rfl ?_
  refine e_aload_n dX12_voiced_1 rfl ?_
  refine e_aload_n dX12_voiced_2 rfl ?_
  refine e_get dX12_voiced_3 fl_X12_302_12 hR.1 rfl ?_
  refine e_top (nI (sp)) (h7) ?_
  refine e_iconst (nI (0)) dX12_voiced_6 (by decide) ?_
  refine c_V2iR (N := mX12_thing) dX12_voiced_7 lv_X12_136 mo_X12_thing hR.cn (Nat.le_of_ble_eq_true rfl) (Nat.le_of_ble_eq_true rfl) (by decide) (s_thing D hR (sp) (0) (by omega) (by omega)) ?_
  refine e_top (nI (1)) (hkd) ?_
  refine e_iload_n dX12_voiced_10 rfl ?_
  refine e_iload_n dX12_voiced_11 rfl ?_
  refine c_V3i (nc := 0) (ns := 0) (mc := 0) (ms := 0) (N := mX12_bodyFrom) dX12_voiced_12 lv_X12_305 mo_X12_bodyFrom hR.cn (Nat.le_of_ble_eq_true rfl) (Nat.le_of_ble_eq_true rfl) (by decide) (s_bf12 D hsp hkd ⟨τ, hR, hF, h6, h40, h7, hE⟩ x) (fun h hP => ?_)
  obtain ⟨τ, hR, hF, h6, h40, h7, hE⟩ := hP
  exact e_iret dX12_voiced_15 rfl (hp _ ⟨τ, hR, hF, h6, h40, h7, hE⟩)
set_option maxRecDepth 20000 in
theorem s_vc2_2 (D : En) {h0 h : AH} {N : Nat → Int32} {σ0 : Nat → Nat → Int32} {τ0 : Nat → Int32} {sp : Nat} {t : TS} (hsp : sp < 10) (hkd : N (112 + 7 * sp + 0) = nI 2) (hA : TA h0 h N σ0 τ0 sp t) (x : Int32) : Sp D 5 mX12_voiced [.ref 82, .int (nI 2), .int x] h 0 0 (some (.int (flF 2 (N (112 + 7 * sp + 3)) (x) (t)).1)) (fun h' => TA h0 h' N σ0 τ0 sp (flF 2 (N (112 + 7 * sp + 3)) (x) (t)).2) := by
  obtain ⟨τ, hR, hF, h6, h40, h7, hE⟩ := hA
  intro post hp
  show Ev D 5 mX12_voiced 0 [some (.ref (82)), some (.int (nI (2))), some (.int (x))] [] h 0 0 post
  refine e_aload_n dX12_voiced_0 rfl ?_
  refine e_aload_n dX12_voiced_1 rfl ?_
  refine e_aload_n dX12_voiced_2 rfl ?_
  refine e_get dX12_voiced_3 fl_X12_302_12 hR.1 rfl ?_
  refine e_top (nI (sp)) (h7) ?_
  refine e_iconst (nI (0)) dX12_voiced_6 (by decide) ?_
  refine c_V2iR (N := mX12_thing) dX12_voiced_7 lv_X12_136 mo_X12_thing hR.cn (Nat.le_of_ble_eq_true rfl) (Nat.le_of_ble_eq_true rfl) (by decide) (s_thing D hR (sp) (0) (by omega) (by omega)) ?_
  refine e_top (nI (2)) (hkd) ?_
  refine e_iload_n dX12_voiced_10 rfl ?_
  refine e_iload_n dX12_voiced_11 rfl ?_
  refine c_V3i (nc := 0) (ns := 0) (mc := 0) (ms := 0) (N := mX12_bodyFrom) dX12_voiced_12 lv_X12_305 mo_X12_bodyFrom hR.cn (Nat.le_of_ble_eq_true rfl) (Nat.le_of_ble_eq_true rfl) (by decide) (s_bf22 D hsp hkd ⟨τ, hR, hF, h6, h40, h7, hE⟩ x) (fun h hP => ?_)
  obtain ⟨τ, hR, hF, h6, h40, h7, hE⟩ := hP
  exact e_iret dX12_voiced_15 rfl (hp _ ⟨τ, hR, hF, h6, h40, h7, hE⟩)
set_option maxRecDepth 20000 in
theorem s_vc2_3 (D : En) {h0 h : AH} {N : Nat → Int32} {σ0 : Nat → Nat → Int32} {τ0 : Nat → Int32} {sp : Nat} {t : TS} (hsp : sp < 10) (hkd : N (112 + 7 * sp + 0) = nI 3) (hA : TA h0 h N σ0 τ0 sp t) (x : Int32) : Sp D 5 mX12_voiced [.ref 82, .int (nI 2), .int x] h 0 0 (some (.int (flF 3 (N (112 + 7 * sp + 3)) (x) (t)).1)) (fun h' => TA h0 h' N σ0 τ0 sp (flF 3 (N (112 + 7 * sp + 3)) (x) (t)).2) := by
  obtain ⟨τ, hR, hF, h6, h40, h7, hE⟩ := hA
  intro post hp
  show Ev D 5 mX12_voiced 0 [some (.ref (82)), some (.int (nI (2))), some (.int (x))] [] h 0 0 post
  refine e_aload_n dX12_voiced_0 rfl ?_
  refine e_aload_n dX12_voiced_1 rfl ?_
  refine e_aload_n dX12_voiced_2 rfl ?_
  refine e_get dX12_voiced_3 fl_X12_302_12 hR.1 rfl ?_
  refine e_top (nI (sp)) (h7) ?_
  refine e_iconst (nI (0)) dX12_voiced_6 (by decide) ?_
  refine c_V2iR (N := mX12_thing) dX12_voiced_7 lv_X12_136 mo_X12_thing hR.cn (Nat.le_of_ble_eq_true rfl) (Nat.le_of_ble_eq_true rfl) (by decide) (s_thing D hR (sp) (0) (by omega) (by omega)) ?_
  refine e_top (nI (3)) (hkd) ?_
  refine e_iload_n dX12_voiced_10 rfl ?_
  refine e_iload_n dX12_voiced_11 rfl ?_
  refine c_V3i (nc := 0) (ns := 0) (mc := 0) (ms := 0) (N := mX12_bodyFrom) dX12_voiced_12 lv_X12_305 mo_X12_bodyFrom hR.cn (Nat.le_of_ble_eq_true rfl) (Nat.le_of_ble_eq_true rfl) (by decide) (s_bf32 D hsp hkd ⟨τ, hR, hF, h6, h40, h7, hE⟩ x) (fun h hP => ?_)
  obtain ⟨τ, hR, hF, h6, h40, h7, hE⟩ := hP
  exact e_iret dX12_voiced_15 rfl (hp _ ⟨τ, hR, hF, h6, h40, h7, hE⟩)
set_option maxRecDepth 20000 in
theorem s_vc2_4 (D : En) {h0 h : AH} {N : Nat → Int32} {σ0 : Nat → Nat → Int32} {τ0 : Nat → Int32} {sp : Nat} {t : TS} (hsp : sp < 10) (hkd : N (112 + 7 * sp + 0) = nI 4) (hA : TA h0 h N σ0 τ0 sp t) (x : Int32) : Sp D 5 mX12_voiced [.ref 82, .int (nI 2), .int x] h 0 0 (some (.int (flF 4 (N (112 + 7 * sp + 3)) (x) (t)).1)) (fun h' => TA h0 h' N σ0 τ0 sp (flF 4 (N (112 + 7 * sp + 3)) (x) (t)).2) := by
  obtain ⟨τ, hR, hF, h6, h40, h7, hE⟩ := hA
  intro post hp
  show Ev D 5 mX12_voiced 0 [some (.ref (82)), some (.int (nI (2))), some (.int (x))] [] h 0 0 post
  refine e_aload_n dX12_voiced_0 rfl ?_
  refine e_aload_n dX12_voiced_1 rfl ?_
  refine e_aload_n dX12_voiced_2 rfl ?_
  refine e_get dX12_voiced_3 fl_X12_302_12 hR.1 rfl ?_
  refine e_top (nI (sp)) (h7) ?_
  refine e_iconst (nI (0)) dX12_voiced_6 (by decide) ?_
  refine c_V2iR (N := mX12_thing) dX12_voiced_7 lv_X12_136 mo_X12_thing hR.cn (Nat.le_of_ble_eq_true rfl) (Nat.le_of_ble_eq_true rfl) (by decide) (s_thing D hR (sp) (0) (by omega) (by omega)) ?_
  refine e_top (nI (4)) (hkd) ?_
  refine e_iload_n dX12_voiced_10 rfl ?_
  refine e_iload_n dX12_voiced_11 rfl ?_
  refine c_V3i (nc := 0) (ns := 0) (mc := 0) (ms := 0) (N := mX12_bodyFrom) dX12_voiced_12 lv_X12_305 mo_X12_bodyFrom hR.cn (Nat.le_of_ble_eq_true rfl) (Nat.le_of_ble_eq_true rfl) (by decide) (s_bf42 D hsp hkd ⟨τ, hR, hF, h6, h40, h7, hE⟩ x) (fun h hP => ?_)
  obtain ⟨τ, hR, hF, h6, h40, h7, hE⟩ := hP
  exact e_iret dX12_voiced_15 rfl (hp _ ⟨τ, hR, hF, h6, h40, h7, hE⟩)
set_option maxRecDepth 20000 in
theorem s_vc2_5 (D : En) {h0 h : AH} {N : Nat → Int32} {σ0 : Nat → Nat → Int32} {τ0 : Nat → Int32} {sp : Nat} {t : TS} (hsp : sp < 10) (hkd : N (112 + 7 * sp + 0) = nI 5) (hA : TA h0 h N σ0 τ0 sp t) (x : Int32) : Sp D 5 mX12_voiced [.ref 82, .int (nI 2), .int x] h 0 0 (some (.int (flF 5 (N (112 + 7 * sp + 3)) (x) (t)).1)) (fun h' => TA h0 h' N σ0 τ0 sp (flF 5 (N (112 + 7 * sp + 3)) (x) (t)).2) := by
  obtain ⟨τ, hR, hF, h6, h40, h7, hE⟩ := hA
  intro post hp
  show Ev D 5 mX12_voiced 0 [some (.ref (82)), some (.int (nI (2))), some (.int (x))] [] h 0 0 post
  refine e_aload_n dX12_voiced_0 rfl ?_
  refine e_aload_n dX12_voiced_1 rfl ?_
  refine e_aload_n dX12_voiced_2 rfl ?_
  refine e_get dX12_voiced_3 fl_X12_302_12 hR.1 rfl ?_
  refine e_top (nI (sp)) (h7) ?_
  refine e_iconst (nI (0)) dX12_voiced_6 (by decide) ?_
  refine c_V2iR (N := mX12_thing) dX12_voiced_7 lv_X12_136 mo_X12_thing hR.cn (Nat.le_of_ble_eq_true rfl) (Nat.le_of_ble_eq_true rfl) (by decide) (s_thing D hR (sp) (0) (by omega) (by omega)) ?_
  refine e_top (nI (5)) (hkd) ?_
  refine e_iload_n dX12_voiced_10 rfl ?_
  refine e_iload_n dX12_voiced_11 rfl ?_
  refine c_V3i (nc := 0) (ns := 0) (mc := 0) (ms := 0) (N := mX12_bodyFrom) dX12_voiced_12 lv_X12_305 mo_X12_bodyFrom hR.cn (Nat.le_of_ble_eq_true rfl) (Nat.le_of_ble_eq_true rfl) (by decide) (s_bf52 D hsp hkd ⟨τ, hR, hF, h6, h40, h7, hE⟩ x) (fun h hP => ?_)
  obtain ⟨τ, hR, hF, h6, h40, h7, hE⟩ := hP
  exact e_iret dX12_voiced_15 rfl (hp _ ⟨τ, hR, hF, h6, h40, h7, hE⟩)
set_option maxRecDepth 20000 in
theorem s_vc2_6 (D : En) {h0 h : AH} {N : Nat → Int32} {σ0 : Nat → Nat → Int32} {τ0 : Nat → Int32} {sp : Nat} {t : TS} (hsp : sp < 10) (hkd : N (112 + 7 * sp + 0) = nI 6) (hA : TA h0 h N σ0 τ0 sp t) (x : Int32) : Sp D 5 mX12_voiced [.ref 82, .int (nI 2), .int x] h 0 0 (some (.int (flF 6 (N (112 + 7 * sp + 3)) (x) (t)).1)) (fun h' => TA h0 h' N σ0 τ0 sp (flF 6 (N (112 + 7 * sp + 3)) (x) (t)).2) := by
  obtain ⟨τ, hR, hF, h6, h40, h7, hE⟩ := hA
  intro post hp
  show Ev D 5 mX12_voiced 0 [some (.ref (82)), some (.int (nI (2))), some (.int (x))] [] h 0 0 post
  refine e_aload_n dX12_voiced_0 rfl ?_
  refine e_aload_n dX12_voiced_1 rfl ?_
  refine e_aload_n dX12_voiced_2 rfl ?_
  refine e_get dX12_voiced_3 fl_X12_302_12 hR.1 rfl ?_
  refine e_top (nI (sp)) (h7) ?_
  refine e_iconst (nI (0)) dX12_voiced_6 (by decide) ?_
  refine c_V2iR (N := mX12_thing) dX12_voiced_7 lv_X12_136 mo_X12_thing hR.cn (Nat.le_of_ble_eq_true rfl) (Nat.le_of_ble_eq_true rfl) (by decide) (s_thing D hR (sp) (0) (by omega) (by omega)) ?_
  refine e_top (nI (6)) (hkd) ?_
  refine e_iload_n dX12_voiced_10 rfl ?_
  refine e_iload_n dX12_voiced_11 rfl ?_
  refine c_V3i (nc := 0) (ns := 0) (mc := 0) (ms := 0) (N := mX12_bodyFrom) dX12_voiced_12 lv_X12_305 mo_X12_bodyFrom hR.cn (Nat.le_of_ble_eq_true rfl) (Nat.le_of_ble_eq_true rfl) (by decide) (s_bf62 D hsp hkd ⟨τ, hR, hF, h6, h40, h7, hE⟩ x) (fun h hP => ?_)
  obtain ⟨τ, hR, hF, h6, h40, h7, hE⟩ := hP
  exact e_iret dX12_voiced_15 rfl (hp _ ⟨τ, hR, hF, h6, h40, h7, hE⟩)
theorem s_vc2 (D : En) {h0 h : AH} {N : Nat → Int32} {σ0 : Nat → Nat → Int32} {τ0 : Nat → Int32} {sp K : Nat} {t : TS} (hsp : sp < 10) (hkd : N (112 + 7 * sp + 0) = nI K) (hA : TA h0 h N σ0 τ0 sp t) (x : Int32) (hK7 : K < 7) : Sp D 5 mX12_voiced [.ref 82, .int (nI 2), .int x] h 0 0 (some (.int (flF K (N (112 + 7 * sp + 3)) (x) (t)).1)) (fun h' => TA h0 h' N σ0 τ0 sp (flF K (N (112 + 7 * sp + 3)) (x) (t)).2) := by
  rcases (show K = 0 ∨ K = 1 ∨ K = 2 ∨ K = 3 ∨ K = 4 ∨ K = 5 ∨ K = 6 by omega) with rfl | rfl | rfl | rfl | rfl | rfl | rfl
  · exact s_vc2_0 D hsp hkd hA x
  · exact s_vc2_1 D hsp hkd hA x
  · exact s_vc2_2 D hsp hkd hA x
  · exact s_vc2_3 D hsp hkd hA x
  · exact s_vc2_4 D hsp hkd hA x
  · exact s_vc2_5 D hsp hkd hA x
  · exact s_vc2_6 D hsp hkd hA x
set_option maxRecDepth 20000 in
theorem s_bd01 (D : En) {h0 h : AH} {N : Nat → Int32} {σ0 : Nat → Nat → Int32} {τ0 : Nat → Int32} {sp K : Nat} {t : TS} (hsp : sp < 10) (hkd : N (112 + 7 * sp + 0) = nI K) (hA : TA h0 h N σ0 τ0 sp t) (hK7 : K < 7) (x : Int32) : Sp D 8 mX12_body [.ref (82), .int (nI (0)), .int (nI (1)), .int (x)] h 0 0 (some (.int ((rsB K (nI sp) x t).1))) (fun h' => TA h0 h' N σ0 τ0 sp (rsB K (nI sp) x t).2) := by
  obtain ⟨τ, hR, hF, h6, h40, h7, hE⟩ := hA
  intro post hp
  show Ev D 8 mX12_body 0 [some (.ref (82)), some (.int (nI (0))), some (.int (nI (1))), some (.int (x)), none] [] h 0 0 post
  refine e_iconst (nI (4)) dX12_body_0 (by decide) ?_
  refine e_iload_n dX12_body_1 rfl ?_
  refine e_imulN dX12_body_2 ?_
  refine e_iload_n dX12_body_3 rfl ?_
  refine e_iaddN dX12_body_4 ?_
  refine e_tableIn (off := 116) 121 dX12_body_5 (by decide) (by decide) (by decide) (by decide) ?_
  refine e_aload_n dX12_body_121 rfl ?_
  refine e_bipush (nI (11)) dX12_body_122 (by decide) ?_
  refine c_V1v (nc := 0) (ns := 0) (mc := 0) (ms := 0) (N := mX12_began) dX12_body_124 lv_X12_314 mo_X12_began hR.cn (Nat.le_of_ble_eq_true rfl) (Nat.le_of_ble_eq_true rfl) (by decide) (s_began D (nI (11)) ⟨τ, hR, hF, h6, h40, h7, hE⟩) (fun h hP => ?_)
  obtain ⟨τ, hR, hF, h6, h40, h7, hE⟩ := hP
  refine e_aload_n dX12_body_127 rfl ?_
  refine e_iconst (nI (0)) dX12_body_128 (by decide) ?_
  refine e_iload_n dX12_body_129 rfl ?_
  refine c_V2i (nc := 0) (ns := 0) (mc := 0) (ms := 0) (N := mX12_voiced) dX12_body_130 lv_X12_317 mo_X12_voiced hR.cn (Nat.le_of_ble_eq_true rfl) (Nat.le_of_ble_eq_true rfl) (by decide) (s_vc0 D hsp hkd ⟨τ, hR, hF, h6, h40, h7, hE⟩ ((x)) hK7) (fun h hP => ?_)
  obtain ⟨τ, hR, hF, h6, h40, h7, hE⟩ := hP
  refine e_iconst (nI (2)) dX12_body_133 (by decide) ?_
  refine e_imul dX12_body_134 ?_
  exact e_iret dX12_body_135 rfl (hp _ ⟨τ, hR, hF, h6, h40, h7, hE⟩)
set_option maxRecDepth 20000 in
theorem s_bf01 (D : En) {h0 h : AH} {N : Nat → Int32} {σ0 : Nat → Nat → Int32} {τ0 : Nat → Int32} {sp K : Nat} {t : TS} (hsp : sp < 10) (hkd : N (112 + 7 * sp + 0) = nI K) (hA : TA h0 h N σ0 τ0 sp t) (hK7 : K < 7) (x : Int32) : Sp D 9 mX12_bodyFrom [.ref (82), .int (nI (0)), .int (nI (1)), .int (x)] h 0 0 (some (.int ((rsF 0 K (nI sp) (N (112 + 7 * sp + 3)) (x) (t)).1))) (fun h' => TA h0 h' N σ0 τ0 sp (rsF 0 K (nI sp) (N (112 + 7 * sp + 3)) (x) (t)).2) := by
  obtain ⟨τ, hR, hF, h6, h40, h7, hE⟩ := hA
  intro post hp
  show Ev D 9 mX12_bodyFrom 0 [some (.ref (82)), some (.int (nI (0))), some (.int (nI (1))), some (.int (x)), none] [] h 0 0 post
  refine e_iload_n dX12_bodyFrom_0 rfl ?_
  refine e_istore dX12_bodyFrom_1 (by decide) ?_
  refine e_iload dX12_bodyFrom_3 rfl ?_
  refine e_iload_n dX12_bodyFrom_5 rfl ?_
  refine c_S2iR (N := mX12_hasOwn) dX12_bodyFrom_6 ls_X12_308 mo_X12_hasOwn  (Nat.le_of_ble_eq_true rfl) (Nat.le_of_ble_eq_true rfl) (by decide) (s_own01 D) ?_
  refine e_if_neN 22 dX12_bodyFrom_9 (by decide) (by omega) (fun hcq9 => ?_) (fun hcq9 => absurd hcq9 (by decide))
  refine e_aload_n dX12_bodyFrom_22 rfl ?_
  refine e_iload dX12_bodyFrom_23 rfl ?_
  refine e_iload_n dX12_bodyFrom_25 rfl ?_
  refine e_iload_n dX12_bodyFrom_26 rfl ?_
  refine c_V3i (nc := 0) (ns := 0) (mc := 0) (ms := 0) (N := mX12_body) dX12_bodyFrom_27 lv_X12_311 mo_X12_body hR.cn (Nat.le_of_ble_eq_true rfl) (Nat.le_of_ble_eq_true rfl) (by decide) (s_bd01 D hsp hkd ⟨τ, hR, hF, h6, h40, h7, hE⟩ hK7 x) (fun h hP => ?_)
  obtain ⟨τ, hR, hF, h6, h40, h7, hE⟩ := hP
  exact e_iret dX12_bodyFrom_30 rfl (hp _ ⟨τ, hR, hF, h6, h40, h7, hE⟩)
set_option maxRecDepth 20000 in
theorem s_bf21 (D : En) {h0 h : AH} {N : Nat → Int32} {σ0 : Nat → Nat → Int32} {τ0 : Nat → Int32} {sp K : Nat} {t : TS} (hsp : sp < 10) (hkd : N (112 + 7 * sp + 0) = nI K) (hA : TA h0 h N σ0 τ0 sp t) (hK7 : K < 7) (x : Int32) : Sp D 9 mX12_bodyFrom [.ref (82), .int (nI (2)), .int (nI (1)), .int (x)] h 0 0 (some (.int ((rsF 2 K (nI sp) (N (112 + 7 * sp + 3)) (x) (t)).1))) (fun h' => TA h0 h' N σ0 τ0 sp (rsF 2 K (nI sp) (N (112 + 7 * sp + 3)) (x) (t)).2) := by
  obtain ⟨τ, hR, hF, h6, h40, h7, hE⟩ := hA
  intro post hp
  show Ev D 9 mX12_bodyFrom 0 [some (.ref (82)), some (.int (nI (2))), some (.int (nI (1))), some (.int (x)), none] [] h 0 0 post
  refine e_iload_n dX12_bodyFrom_0 rfl ?_
  refine e_istore dX12_bodyFrom_1 (by decide) ?_
  refine e_iload dX12_bodyFrom_3 rfl ?_
  refine e_iload_n dX12_bodyFrom_5 rfl ?_
  refine c_S2iR (N := mX12_hasOwn) dX12_bodyFrom_6 ls_X12_308 mo_X12_hasOwn  (Nat.le_of_ble_eq_true rfl) (Nat.le_of_ble_eq_true rfl) (by decide) (s_own21 D) ?_
  refine e_if_neN 22 dX12_bodyFrom_9 (by decide) (by omega) (fun hcq9 => absurd hcq9 (by decide)) (fun hcq9 => ?_)
  refine e_iload dX12_bodyFrom_12 rfl ?_
  refine c_S1iR (N := mX12_above) dX12_bodyFrom_14 ls_X12_154 mo_X12_above  (Nat.le_of_ble_eq_true rfl) (Nat.le_of_ble_eq_true rfl) (by decide) (s_abv2 D) ?_
  refine e_istore dX12_bodyFrom_17 (by decide) ?_
  refine e_goto 3 dX12_bodyFrom_19 (by decide) ?_
  refine e_iload dX12_bodyFrom_3 rfl ?_
  refine e_iload_n dX12_bodyFrom_5 rfl ?_
  refine c_S2iR (N := mX12_hasOwn) dX12_bodyFrom_6 ls_X12_308 mo_X12_hasOwn  (Nat.le_of_ble_eq_true rfl) (Nat.le_of_ble_eq_true rfl) (by decide) (s_own01 D) ?_
  refine e_if_neN 22 dX12_bodyFrom_9 (by decide) (by omega) (fun hcq9 => ?_) (fun hcq9 => absurd hcq9 (by decide))
  refine e_aload_n dX12_bodyFrom_22 rfl ?_
  refine e_iload dX12_bodyFrom_23 rfl ?_
  refine e_iload_n dX12_bodyFrom_25 rfl ?_
  refine e_iload_n dX12_bodyFrom_26 rfl ?_
  refine c_V3i (nc := 0) (ns := 0) (mc := 0) (ms := 0) (N := mX12_body) dX12_bodyFrom_27 lv_X12_311 mo_X12_body hR.cn (Nat.le_of_ble_eq_true rfl) (Nat.le_of_ble_eq_true rfl) (by decide) (s_bd01 D hsp hkd ⟨τ, hR, hF, h6, h40, h7, hE⟩ hK7 x) (fun h hP => ?_)
  obtain ⟨τ, hR, hF, h6, h40, h7, hE⟩ := hP
  exact e_iret dX12_bodyFrom_30 rfl (hp _ ⟨τ, hR, hF, h6, h40, h7, hE⟩)
set_option maxRecDepth 20000 in
theorem s_bf31 (D : En) {h0 h : AH} {N : Nat → Int32} {σ0 : Nat → Nat → Int32} {τ0 : Nat → Int32} {sp K : Nat} {t : TS} (hsp : sp < 10) (hkd : N (112 + 7 * sp + 0) = nI K) (hA : TA h0 h N σ0 τ0 sp t) (hK7 : K < 7) (x : Int32) : Sp D 9 mX12_bodyFrom [.ref (82), .int (nI (3)), .int (nI (1)), .int (x)] h 0 0 (some (.int ((rsF 3 K (nI sp) (N (112 + 7 * sp + 3)) (x) (t)).1))) (fun h' => TA h0 h' N σ0 τ0 sp (rsF 3 K (nI sp) (N (112 + 7 * sp + 3)) (x) (t)).2) := by
  obtain ⟨τ, hR, hF, h6, h40, h7, hE⟩ := hA
  intro post hp
  show Ev D 9 mX12_bodyFrom 0 [some (.ref (82)), some (.int (nI (3))), some (.int (nI (1))), some (.int (x)), none] [] h 0 0 post
  refine e_iload_n dX12_bodyFrom_0 rfl ?_
  refine e_istore dX12_bodyFrom_1 (by decide) ?_
  refine e_iload dX12_bodyFrom_3 rfl ?_
  refine e_iload_n dX12_bodyFrom_5 rfl ?_
  refine c_S2iR (N := mX12_hasOwn) dX12_bodyFrom_6 ls_X12_308 mo_X12_hasOwn  (Nat.le_of_ble_eq_true rfl) (Nat.le_of_ble_eq_true rfl) (by decide) (s_own31 D) ?_
  refine e_if_neN 22 dX12_bodyFrom_9 (by decide) (by omega) (fun hcq9 => absurd hcq9 (by decide)) (fun hcq9 => ?_)
  refine e_iload dX12_bodyFrom_12 rfl ?_
  refine c_S1iR (N := mX12_above) dX12_bodyFrom_14 ls_X12_154 mo_X12_above  (Nat.le_of_ble_eq_true rfl) (Nat.le_of_ble_eq_true rfl) (by decide) (s_abv3 D) ?_
  refine e_istore dX12_bodyFrom_17 (by decide) ?_
  refine e_goto 3 dX12_bodyFrom_19 (by decide) ?_
  refine e_iload dX12_bodyFrom_3 rfl ?_
  refine e_iload_n dX12_bodyFrom_5 rfl ?_
  refine c_S2iR (N := mX12_hasOwn) dX12_bodyFrom_6 ls_X12_308 mo_X12_hasOwn  (Nat.le_of_ble_eq_true rfl) (Nat.le_of_ble_eq_true rfl) (by decide) (s_own21 D) ?_
  refine e_if_neN 22 dX12_bodyFrom_9 (by decide) (by omega) (fun hcq9 => absurd hcq9 (by decide)) (fun hcq9 => ?_)
  refine e_iload dX12_bodyFrom_12 rfl ?_
  refine c_S1iR (N := mX12_above) dX12_bodyFrom_14 ls_X12_154 mo_X12_above  (Nat.le_of_ble_eq_true rfl) (Nat.le_of_ble_eq_true rfl) (by decide) (s_abv2 D) ?_
  refine e_istore dX12_bodyFrom_17 (by decide) ?_
  refine e_goto 3 dX12_bodyFrom_19 (by decide) ?_
  refine e_iload dX12_bodyFrom_3 rfl ?_
  refine e_iload_n dX12_bodyFrom_5 rfl ?_
  refine c_S2iR (N := mX12_hasOwn) dX12_bodyFrom_6 ls_X12_308 mo_X12_hasOwn  (Nat.le_of_ble_eq_true rfl) (Nat.le_of_ble_eq_true rfl) (by decide) (s_own01 D) ?_
  refine e_if_neN 22 dX12_bodyFrom_9 (by decide) (by omega) (fun hcq9 => ?_) (fun hcq9 => absurd hcq9 (by decide))
  refine e_aload_n dX12_bodyFrom_22 rfl ?_
  refine e_iload dX12_bodyFrom_23 rfl ?_
  refine e_iload_n dX12_bodyFrom_25 rfl ?_
  refine e_iload_n dX12_bodyFrom_26 rfl ?_
  refine c_V3i (nc := 0) (ns := 0) (mc := 0) (ms := 0) (N := mX12_body) dX12_bodyFrom_27 lv_X12_311 mo_X12_body hR.cn (Nat.le_of_ble_eq_true rfl) (Nat.le_of_ble_eq_true rfl) (by decide) (s_bd01 D hsp hkd ⟨τ, hR, hF, h6, h40, h7, hE⟩ hK7 x) (fun h hP => ?_)
  obtain ⟨τ, hR, hF, h6, h40, h7, hE⟩ := hP
  exact e_iret dX12_bodyFrom_30 rfl (hp _ ⟨τ, hR, hF, h6, h40, h7, hE⟩)
set_option maxRecDepth 20000 in
theorem s_bf41 (D : En) {h0 h : AH} {N : Nat → Int32} {σ0 : Nat → Nat → Int32} {τ0 : Nat → Int32} {sp K : Nat} {t : TS} (hsp : sp < 10) (hkd : N (112 + 7 * sp + 0) = nI K) (hA : TA h0 h N σ0 τ0 sp t) (hK7 : K < 7) (x : Int32) : Sp D 9 mX12_bodyFrom [.ref (82), .int (nI (4)), .int (nI (1)), .int (x)] h 0 0 (some (.int ((rsF 4 K (nI sp) (N (112 + 7 * sp + 3)) (x) (t)).1))) (fun h' => TA h0 h' N σ0 τ0 sp (rsF 4 K (nI sp) (N (112 + 7 * sp + 3)) (x) (t)).2) := by
  obtain ⟨τ, hR, hF, h6, h40, h7, hE⟩ := hA
  intro post hp
  show Ev D 9 mX12_bodyFrom 0 [some (.ref (82)), some (.int (nI (4))), some (.int (nI (1))), some (.int (x)), none] [] h 0 0 post
  refine e_iload_n dX12_bodyFrom_0 rfl ?_
  refine e_istore dX12_bodyFrom_1 (by decide) ?_
  refine e_iload dX12_bodyFrom_3 rfl ?_
  refine e_iload_n dX12_bodyFrom_5 rfl ?_
  refine c_S2iR (N := mX12_hasOwn) dX12_bodyFrom_6 ls_X12_308 mo_X12_hasOwn  (Nat.le_of_ble_eq_true rfl) (Nat.le_of_ble_eq_true rfl) (by decide) (s_own41 D) ?_
  refine e_if_neN 22 dX12_bodyFrom_9 (by decide) (by omega) (fun hcq9 => absurd hcq9 (by decide)) (fun hcq9 => ?_)
  refine e_iload dX12_bodyFrom_12 rfl ?_
  refine c_S1iR (N := mX12_above) dX12_bodyFrom_14 ls_X12_154 mo_X12_above  (Nat.le_of_ble_eq_true rfl) (Nat.le_of_ble_eq_true rfl) (by decide) (s_abv4 D) ?_
  refine e_istore dX12_bodyFrom_17 (by decide) ?_
  refine e_goto 3 dX12_bodyFrom_19 (by decide) ?_
  refine e_iload dX12_bodyFrom_3 rfl ?_
  refine e_iload_n dX12_bodyFrom_5 rfl ?_
  refine c_S2iR (N := mX12_hasOwn) dX12_bodyFrom_6 ls_X12_308 mo_X12_hasOwn  (Nat.le_of_ble_eq_true rfl) (Nat.le_of_ble_eq_true rfl) (by decide) (s_own01 D) ?_
  refine e_if_neN 22 dX12_bodyFrom_9 (by decide) (by omega) (fun hcq9 => ?_) (fun hcq9 => absurd hcq9 (by decide))
  refine e_aload_n dX12_bodyFrom_22 rfl ?_
  refine e_iload dX12_bodyFrom_23 rfl ?_
  refine e_iload_n dX12_bodyFrom_25 rfl ?_
  refine e_iload_n dX12_bodyFrom_26 rfl ?_
  refine c_V3i (nc := 0) (ns := 0) (mc := 0) (ms := 0) (N := mX12_body) dX12_bodyFrom_27 lv_X12_311 mo_X12_body hR.cn (Nat.le_of_ble_eq_true rfl) (Nat.le_of_ble_eq_true rfl) (by decide) (s_bd01 D hsp hkd ⟨τ, hR, hF, h6, h40, h7, hE⟩ hK7 x) (fun h hP => ?_)
  obtain ⟨τ, hR, hF, h6, h40, h7, hE⟩ := hP
  exact e_iret dX12_bodyFrom_30 rfl (hp _ ⟨τ, hR, hF, h6, h40, h7, hE⟩)
set_option maxRecDepth 20000 in
theorem s_bf61 (D : En) {h0 h : AH} {N : Nat → Int32} {σ0 : Nat → Nat → Int32} {τ0 : Nat → Int32} {sp K : Nat} {t : TS} (hsp : sp < 10) (hkd : N (112 + 7 * sp + 0) = nI K) (hA : TA h0 h N σ0 τ0 sp t) (hK7 : K < 7) (x : Int32) : Sp D 9 mX12_bodyFrom [.ref (82), .int (nI (6)), .int (nI (1)), .int (x)] h 0 0 (some (.int ((rsF 6 K (nI sp) (N (112 + 7 * sp + 3)) (x) (t)).1))) (fun h' => TA h0 h' N σ0 τ0 sp (rsF 6 K (nI sp) (N (112 + 7 * sp + 3)) (x) (t)).2) := by
  obtain ⟨τ, hR, hF, h6, h40, h7, hE⟩ := hA
  intro post hp
  show Ev D 9 mX12_bodyFrom 0 [some (.ref (82)), some (.int (nI (6))), some (.int (nI (1))), some (.int (x)), none] [] h 0 0 post
  refine e_iload_n dX12_bodyFrom_0 rfl ?_
  refine e_istore dX12_bodyFrom_1 (by decide) ?_
  refine e_iload dX12_bodyFrom_3 rfl ?_
  refine e_iload_n dX12_bodyFrom_5 rfl ?_
  refine c_S2iR (N := mX12_hasOwn) dX12_bodyFrom_6 ls_X12_308 mo_X12_hasOwn  (Nat.le_of_ble_eq_true rfl) (Nat.le_of_ble_eq_true rfl) (by decide) (s_own61 D) ?_
  refine e_if_neN 22 dX12_bodyFrom_9 (by decide) (by omega) (fun hcq9 => absurd hcq9 (by decide)) (fun hcq9 => ?_)
  refine e_iload dX12_bodyFrom_12 rfl ?_
  refine c_S1iR (N := mX12_above) dX12_bodyFrom_14 ls_X12_154 mo_X12_above  (Nat.le_of_ble_eq_true rfl) (Nat.le_of_ble_eq_true rfl) (by decide) (s_abv6 D) ?_
  refine e_istore dX12_bodyFrom_17 (by decide) ?_
  refine e_goto 3 dX12_bodyFrom_19 (by decide) ?_
  refine e_iload dX12_bodyFrom_3 rfl ?_
  refine e_iload_n dX12_bodyFrom_5 rfl ?_
  refine c_S2iR (N := mX12_hasOwn) dX12_bodyFrom_6 ls_X12_308 mo_X12_hasOwn  (Nat.le_of_ble_eq_true rfl) (Nat.le_of_ble_eq_true rfl) (by decide) (s_own41 D) ?_
  refine e_if_neN 22 dX12_bodyFrom_9 (by decide) (by omega) (fun hcq9 => absurd hcq9 (by decide)) (fun hcq9 => ?_)
  refine e_iload dX12_bodyFrom_12 rfl ?_
  refine c_S1iR (N := mX12_above) dX12_bodyFrom_14 ls_X12_154 mo_X12_above  (Nat.le_of_ble_eq_true rfl) (Nat.le_of_ble_eq_true rfl) (by decide) (s_abv4 D) ?_
  refine e_istore dX12_bodyFrom_17 (by decide) ?_
  refine e_goto 3 dX12_bodyFrom_19 (by decide) ?_
  refine e_iload dX12_bodyFrom_3 rfl ?_
  refine e_iload_n dX12_bodyFrom_5 rfl ?_
  refine c_S2iR (N := mX12_hasOwn) dX12_bodyFrom_6 ls_X12_308 mo_X12_hasOwn  (Nat.le_of_ble_eq_true rfl) (Nat.le_of_ble_eq_true rfl) (by decide) (s_own01 D) ?_
  refine e_if_neN 22 dX12_bodyFrom_9 (by decide) (by omega) (fun hcq9 => ?_) (fun hcq9 => absurd hcq9 (by decide))
  refine e_aload_n dX12_bodyFrom_22 rfl ?_
  refine e_iload dX12_bodyFrom_23 rfl ?_
  refine e_iload_n dX12_bodyFrom_25 rfl ?_
  refine e_iload_n dX12_bodyFrom_26 rfl ?_
  refine c_V3i (nc := 0) (ns := 0) (mc := 0) (ms := 0) (N := mX12_body) dX12_bodyFrom_27 lv_X12_311 mo_X12_body hR.cn (Nat.le_of_ble_eq_true rfl) (Nat.le_of_ble_eq_true rfl) (by decide) (s_bd01 D hsp hkd ⟨τ, hR, hF, h6, h40, h7, hE⟩ hK7 x) (fun h hP => ?_)
  obtain ⟨τ, hR, hF, h6, h40, h7, hE⟩ := hP
  exact e_iret dX12_bodyFrom_30 rfl (hp _ ⟨τ, hR, hF, h6, h40, h7, hE⟩)
set_option maxRecDepth 20000 in
theorem s_bd11 (D : En) {h0 h : AH} {N : Nat → Int32} {σ0 : Nat → Nat → Int32} {τ0 : Nat → Int32} {sp K : Nat} {t : TS} (hsp : sp < 10) (hkd : N (112 + 7 * sp + 0) = nI K) (hA : TA h0 h N σ0 τ0 sp t) (hK7 : K < 7) (x : Int32) : Sp D 10 mX12_body [.ref (82), .int (nI (1)), .int (nI (1)), .int (x)] h 0 0 (some (.int ((rsS K (nI sp) (N (112 + 7 * sp + 3)) x t).1))) (fun h' => TA h0 h' N σ0 τ0 sp (rsS K (nI sp) (N (112 + 7 * sp + 3)) x t).2) := by
  obtain ⟨τ, hR, hF, h6, h40, h7, hE⟩ := hA
  intro post hp
  show Ev D 10 mX12_body 0 [some (.ref (82)), some (.int (nI (1))), some (.int (nI (1))), some (.int (x)), none] [] h 0 0 post
  refine e_iconst (nI (4)) dX12_body_0 (by decide) ?_
  refine e_iload_n dX12_body_1 rfl ?_
  refine e_imulN dX12_body_2 ?_
  refine e_iload_n dX12_body_3 rfl ?_
  refine e_iaddN dX12_body_4 ?_
  refine e_tableIn (off := 173) 178 dX12_body_5 (by decide) (by decide) (by decide) (by decide) ?_
  refine e_aload_n dX12_body_178 rfl ?_
  refine e_bipush (nI (20)) dX12_body_179 (by decide) ?_
  refine c_V1v (nc := 0) (ns := 0) (mc := 0) (ms := 0) (N := mX12_began) dX12_body_181 lv_X12_314 mo_X12_began hR.cn (Nat.le_of_ble_eq_true rfl) (Nat.le_of_ble_eq_true rfl) (by decide) (s_began D (nI (20)) ⟨τ, hR, hF, h6, h40, h7, hE⟩) (fun h hP => ?_)
  obtain ⟨τ, hR, hF, h6, h40, h7, hE⟩ := hP
  refine e_aload_n dX12_body_184 rfl ?_
  refine e_iconst (nI (0)) dX12_body_185 (by decide) ?_
  refine e_iconst (nI (1)) dX12_body_186 (by decide) ?_
  refine e_iload_n dX12_body_187 rfl ?_
  refine c_V3i (nc := 0) (ns := 0) (mc := 0) (ms := 0) (N := mX12_bodyFrom) dX12_body_188 lv_X12_305 mo_X12_bodyFrom hR.cn (Nat.le_of_ble_eq_true rfl) (Nat.le_of_ble_eq_true rfl) (by decide) (s_bf01 D hsp hkd ⟨τ, hR, hF, h6, h40, h7, hE⟩ hK7 ((x))) (fun h hP => ?_)
  obtain ⟨τ, hR, hF, h6, h40, h7, hE⟩ := hP
  refine e_istore dX12_body_191 (by decide) ?_
  refine e_iload dX12_body_193 rfl ?_
  refine e_aload_n dX12_body_195 rfl ?_
  refine e_iconst (nI (2)) dX12_body_196 (by decide) ?_
  refine e_iconst (nI (1)) dX12_body_197 (by decide) ?_
  refine c_V2i (nc := 0) (ns := 0) (mc := 0) (ms := 0) (N := mX12_voiced) dX12_body_198 lv_X12_317 mo_X12_voiced hR.cn (Nat.le_of_ble_eq_true rfl) (Nat.le_of_ble_eq_true rfl) (by decide) (s_vc2 D hsp hkd ⟨τ, hR, hF, h6, h40, h7, hE⟩ (nI (1)) hK7) (fun h hP => ?_)
  obtain ⟨τ, hR, hF, h6, h40, h7, hE⟩ := hP
  refine e_isub dX12_body_201 ?_
  exact e_iret dX12_body_202 rfl (hp _ ⟨τ, hR, hF, h6, h40, h7, hE⟩)
set_option maxRecDepth 20000 in
theorem s_bf11 (D : En) {h0 h : AH} {N : Nat → Int32} {σ0 : Nat → Nat → Int32} {τ0 : Nat → Int32} {sp K : Nat} {t : TS} (hsp : sp < 10) (hkd : N (112 + 7 * sp + 0) = nI K) (hA : TA h0 h N σ0 τ0 sp t) (hK7 : K < 7) (x : Int32) : Sp D 11 mX12_bodyFrom [.ref (82), .int (nI (1)), .int (nI (1)), .int (x)] h 0 0 (some (.int ((rsF 1 K (nI sp) (N (112 + 7 * sp + 3)) (x) (t)).1))) (fun h' => TA h0 h' N σ0 τ0 sp (rsF 1 K (nI sp) (N (112 + 7 * sp + 3)) (x) (t)).2) := by
  obtain ⟨τ, hR, hF, h6, h40, h7, hE⟩ := hA
  intro post hp
  show Ev D 11 mX12_bodyFrom 0 [some (.ref (82)), some (.int (nI (1))), some (.int (nI (1))), some (.int (x)), none] [] h 0 0 post
  refine e_iload_n dX12_bodyFrom_0 rfl ?_
  refine e_istore dX12_bodyFrom_1 (by decide) ?_
  refine e_iload dX12_bodyFrom_3 rfl ?_
  refine e_iload_n dX12_bodyFrom_5 rfl ?_
  refine c_S2iR (N := mX12_hasOwn) dX12_bodyFrom_6 ls_X12_308 mo_X12_hasOwn  (Nat.le_of_ble_eq_true rfl) (Nat.le_of_ble_eq_true rfl) (by decide) (s_own11 D) ?_
  refine e_if_neN 22 dX12_bodyFrom_9 (by decide) (by omega) (fun hcq9 => ?_) (fun hcq9 => absurd hcq9 (by decide))
  refine e_aload_n dX12_bodyFrom_22 rfl ?_
  refine e_iload dX12_bodyFrom_23 rfl ?_
  refine e_iload_n dX12_bodyFrom_25 rfl ?_
  refine e_iload_n dX12_bodyFrom_26 rfl ?_
  refine c_V3i (nc := 0) (ns := 0) (mc := 0) (ms := 0) (N := mX12_body) dX12_bodyFrom_27 lv_X12_311 mo_X12_body hR.cn (Nat.le_of_ble_eq_true rfl) (Nat.le_of_ble_eq_true rfl) (by decide) (s_bd11 D hsp hkd ⟨τ, hR, hF, h6, h40, h7, hE⟩ hK7 x) (fun h hP => ?_)
  obtain ⟨τ, hR, hF, h6, h40, h7, hE⟩ := hP
  exact e_iret dX12_bodyFrom_30 rfl (hp _ ⟨τ, hR, hF, h6, h40, h7, hE⟩)
set_option maxRecDepth 20000 in
theorem s_bd51 (D : En) {h0 h : AH} {N : Nat → Int32} {σ0 : Nat → Nat → Int32} {τ0 : Nat → Int32} {sp K : Nat} {t : TS} (hsp : sp < 10) (hkd : N (112 + 7 * sp + 0) = nI K) (hA : TA h0 h N σ0 τ0 sp t) (hK7 : K < 7) (x : Int32) : Sp D 12 mX12_body [.ref (82), .int (nI (5)), .int (nI (1)), .int (x)] h 0 0 (some (.int ((rsF 5 K (nI sp) (N (112 + 7 * sp + 3)) x t).1))) (fun h' => TA h0 h' N σ0 τ0 sp (rsF 5 K (nI sp) (N (112 + 7 * sp + 3)) x t).2) := by
  obtain ⟨τ, hR, hF, h6, h40, h7, hE⟩ := hA
  intro post hp
  show Ev D 12 mX12_body 0 [some (.ref (82)), some (.int (nI (5))), some (.int (nI (1))), some (.int (x)), none] [] h 0 0 post
  refine e_iconst (nI (4)) dX12_body_0 (by decide) ?_
  refine e_iload_n dX12_body_1 rfl ?_
  refine e_imulN dX12_body_2 ?_
  refine e_iload_n dX12_body_3 rfl ?_
  refine e_iaddN dX12_body_4 ?_
  refine e_tableIn (off := 289) 294 dX12_body_5 (by decide) (by decide) (by decide) (by decide) ?_
  refine e_aload_n dX12_body_294 rfl ?_
  refine e_bipush (nI (61)) dX12_body_295 (by decide) ?_
  refine c_V1v (nc := 0) (ns := 0) (mc := 0) (ms := 0) (N := mX12_began) dX12_body_297 lv_X12_314 mo_X12_began hR.cn (Nat.le_of_ble_eq_true rfl) (Nat.le_of_ble_eq_true rfl) (by decide) (s_began D (nI (61)) ⟨τ, hR, hF, h6, h40, h7, hE⟩) (fun h hP => ?_)
  obtain ⟨τ, hR, hF, h6, h40, h7, hE⟩ := hP
  refine e_aload_n dX12_body_300 rfl ?_
  refine e_iconst (nI (1)) dX12_body_301 (by decide) ?_
  refine e_iconst (nI (1)) dX12_body_302 (by decide) ?_
  refine e_iload_n dX12_body_303 rfl ?_
  refine c_V3i (nc := 0) (ns := 0) (mc := 0) (ms := 0) (N := mX12_bodyFrom) dX12_body_304 lv_X12_305 mo_X12_bodyFrom hR.cn (Nat.le_of_ble_eq_true rfl) (Nat.le_of_ble_eq_true rfl) (by decide) (s_bf11 D hsp hkd ⟨τ, hR, hF, h6, h40, h7, hE⟩ hK7 ((x))) (fun h hP => ?_)
  obtain ⟨τ, hR, hF, h6, h40, h7, hE⟩ := hP
  refine e_iconst (nI (5)) dX12_body_307 (by decide) ?_
  refine e_iadd dX12_body_308 ?_
  exact e_iret dX12_body_309 rfl (hp _ ⟨τ, hR, hF, h6, h40, h7, hE⟩)
set_option maxRecDepth 20000 in
theorem s_bf51 (D : En) {h0 h : AH} {N : Nat → Int32} {σ0 : Nat → Nat → Int32} {τ0 : Nat → Int32} {sp K : Nat} {t : TS} (hsp : sp < 10) (hkd : N (112 + 7 * sp + 0) = nI K) (hA : TA h0 h N σ0 τ0 sp t) (hK7 : K < 7) (x : Int32) : Sp D 13 mX12_bodyFrom [.ref (82), .int (nI (5)), .int (nI (1)), .int (x)] h 0 0 (some (.int ((rsF 5 K (nI sp) (N (112 + 7 * sp + 3)) (x) (t)).1))) (fun h' => TA h0 h' N σ0 τ0 sp (rsF 5 K (nI sp) (N (112 + 7 * sp + 3)) (x) (t)).2) := by
  obtain ⟨τ, hR, hF, h6, h40, h7, hE⟩ := hA
  intro post hp
  show Ev D 13 mX12_bodyFrom 0 [some (.ref (82)), some (.int (nI (5))), some (.int (nI (1))), some (.int (x)), none] [] h 0 0 post
  refine e_iload_n dX12_bodyFrom_0 rfl ?_
  refine e_istore dX12_bodyFrom_1 (by decide) ?_
  refine e_iload dX12_bodyFrom_3 rfl ?_
  refine e_iload_n dX12_bodyFrom_5 rfl ?_
  refine c_S2iR (N := mX12_hasOwn) dX12_bodyFrom_6 ls_X12_308 mo_X12_hasOwn  (Nat.le_of_ble_eq_true rfl) (Nat.le_of_ble_eq_true rfl) (by decide) (s_own51 D) ?_
  refine e_if_neN 22 dX12_bodyFrom_9 (by decide) (by omega) (fun hcq9 => ?_) (fun hcq9 => absurd hcq9 (by decide))
  refine e_aload_n dX12_bodyFrom_22 rfl ?_
  refine e_iload dX12_bodyFrom_23 rfl ?_
  refine e_iload_n dX12_bodyFrom_25 rfl ?_
  refine e_iload_n dX12_bodyFrom_26 rfl ?_
  refine c_V3i (nc := 0) (ns := 0) (mc := 0) (ms := 0) (N := mX12_body) dX12_bodyFrom_27 lv_X12_311 mo_X12_body hR.cn (Nat.le_of_ble_eq_true rfl) (Nat.le_of_ble_eq_true rfl) (by decide) (s_bd51 D hsp hkd ⟨τ, hR, hF, h6, h40, h7, hE⟩ hK7 x) (fun h hP => ?_)
  obtain ⟨τ, hR, hF, h6, h40, h7, hE⟩ := hP
  exact e_iret dX12_bodyFrom_30 rfl (hp _ ⟨τ, hR, hF, h6, h40, h7, hE⟩)
set_option maxRecDepth 20000 in
theorem s_vc1_0 (D : En) {h0 h : AH} {N : Nat → Int32} {σ0 : Nat → Nat → Int32} {τ0 : Nat → Int32} {sp : Nat} {t : TS} (hsp : sp < 10) (hkd : N (112 + 7 * sp + 0) = nI 0) (hA : TA h0 h N σ0 τ0 sp t) (x : Int32) : Sp D 14 mX12_voiced [.ref 82, .int (nI 1), .int x] h 0 0 (some (.int (rsF 0 0 (nI sp) (N (112 + 7 * sp + 3)) (x) (t)).1)) (fun h' => TA h0 h' N σ0 τ0 sp (rsF 0 0 (nI sp) (N (112 + 7 * sp + 3)) (x) (t)).2) := by
  obtain ⟨τ, hR, hF, h6, h40, h7, hE⟩ := hA
  intro post hp
  show Ev D 14 mX12_voiced 0 [some (.ref (82)), some (.int (nI (1))), some (.int (x))] [] h 0 0 post
  refine e_aload_n dX12_voiced_0 rfl ?_
  refine e_aload_n dX12_voiced_1 rfl ?_
  refine e_aload_n dX12_voiced_2 rfl ?_
  refine e_get dX12_voiced_3 fl_X12_302_12 hR.1 rfl ?_
  refine e_top (nI (sp)) (h7) ?_
  refine e_iconst (nI (0)) dX12_voiced_6 (by decide) ?_
  refine c_V2iR (N := mX12_thing) dX12_voiced_7 lv_X12_136 mo_X12_thing hR.cn (Nat.le_of_ble_eq_true rfl) (Nat.le_of_ble_eq_true rfl) (by decide) (s_thing D hR (sp) (0) (by omega) (by omega)) ?_
  refine e_top (nI (0)) (hkd) ?_
  refine e_iload_n dX12_voiced_10 rfl ?_
  refine e_iload_n dX12_voiced_11 rfl ?_
  refine c_V3i (nc := 0) (ns := 0) (mc := 0) (ms := 0) (N := mX12_bodyFrom) dX12_voiced_12 lv_X12_305 mo_X12_bodyFrom hR.cn (Nat.le_of_ble_eq_true rfl) (Nat.le_of_ble_eq_true rfl) (by decide) (s_bf01 D hsp hkd ⟨τ, hR, hF, h6, h40, h7, hE⟩ (by decide) x) (fun h hP => ?_)
  obtain ⟨τ, hR, hF, h6, h40, h7, hE⟩ := hP
  exact e_iret dX12_voiced_15 rfl (hp _ ⟨τ, hR, hF, h6, h40, h7, hE⟩)
set_option maxRecDepth 20000 in
theorem s_vc1_1 (D : En) {h0 h : AH} {N : Nat → Int32} {σ0 : Nat → Nat → Int32} {τ0 : Nat → Int32} {sp : Nat} {t : TS} (hsp : sp < 10) (hkd : N (112 + 7 * sp + 0) = nI 1) (hA : TA h0 h N σ0 τ0 sp t) (x : Int32) : Sp D 14 mX12_voiced [.ref 82, .int (nI 1), .int x] h 0 0 (some (.int (rsF 1 1 (nI sp) (N (112 + 7 * sp + 3)) (x) (t)).1)) (fun h' => TA h0 h' N σ0 τ0 sp (rsF 1 1 (nI sp) (N (112 + 7 * sp + 3)) (x) (t)).2) := by
  obtain ⟨τ, hR, hF, h6, h40, h7, hE⟩ := hA
  intro post hp
  show Ev D 14 mX12_voiced 0 [some (.ref (82)), some (.int (nI (1))), some (.int (x))] [] h 0 0 post
  refine e_aload_n dX12_voiced_0 rfl ?_
  refine e_aload_n dX12_voiced_1 rfl ?_
  refine e_aload_n dX12_voiced_2 rfl ?_
  refine e_get dX12_voiced_3 fl_X12_302_12 hR.1 rfl ?_
  refine e_top (nI (sp)) (h7) ?_
  refine e_iconst (nI (0)) dX12_voiced_6 (by decide) ?_
  refine c_V2iR (N := mX12_thing) dX12_voiced_7 lv_X12_136 mo_X12_thing hR.cn (Nat.le_of_ble_eq_true rfl) (Nat.le_of_ble_eq_true rfl) (by decide) (s_thing D hR (sp) (0) (by omega) (by omega)) ?_
  refine e_top (nI (1)) (hkd) ?_
  refine e_iload_n dX12_voiced_10 rfl ?_
  refine e_iload_n dX12_voiced_11 rfl ?_
  refine c_V3i (nc := 0) (ns := 0) (mc := 0) (ms := 0) (N := mX12_bodyFrom) dX12_voiced_12 lv_X12_305 mo_X12_bodyFrom hR.cn (Nat.le_of_ble_eq_true rfl) (Nat.le_of_ble_eq_true rfl) (by decide) (s_bf11 D hsp hkd ⟨τ, hR, hF, h6, h40, h7, hE⟩ (by decide) x) (fun h hP => ?_)
  obtain ⟨τ, hR, hF, h6, h40, h7, hE⟩ := hP
  exact e_iret dX12_voiced_15 rfl (hp _ ⟨τ, hR, hF, h6, h40, h7, hE⟩)
set_option maxRecDepth 20000 in
theorem s_vc1_2 (D : En) {h0 h : AH} {N : Nat → Int32} {σ0 : Nat → Nat → Int32} {τ0 : Nat → Int32} {sp : Nat} {t : TS} (hsp : sp < 10) (hkd : N (112 + 7 * sp + 0) = nI 2) (hA : TA h0 h N σ0 τ0 sp t) (x : Int32) : Sp D 14 mX12_voiced [.ref 82, .int (nI 1), .int x] h 0 0 (some (.int (rsF 2 2 (nI sp) (N (112 + 7 * sp + 3)) (x) (t)).1)) (fun h' => TA h0 h' N σ0 τ0 sp (rsF 2 2 (nI sp) (N (112 + 7 * sp + 3)) (x) (t)).2) := by
  obtain ⟨τ, hR, hF, h6, h40, h7, hE⟩ := hA
  intro post hp
  show Ev D 14 mX12_voiced 0 [some (.ref (82)), some (.int (nI (1))), some (.int (x))] [] h 0 0 post
  refine e_aload_n dX12_voiced_0 rfl ?_
  refine e_aload_n dX12_voiced_1 rfl ?_
  refine e_aload_n dX12_voiced_2 rfl ?_
  refine e_get dX12_voiced_3 fl_X12_302_12 hR.1 rfl ?_
  refine e_top (nI (sp)) (h7) ?_
  refine e_iconst (nI (0)) dX12_voiced_6 (by decide) ?_
  refine c_V2iR (N := mX12_thing) dX12_voiced_7 lv_X12_136 mo_X12_thing hR.cn (Nat.le_of_ble_eq_true rfl) (Nat.le_of_ble_eq_true rfl) (by decide) (s_thing D hR (sp) (0) (by omega) (by omega)) ?_
  refine e_top (nI (2)) (hkd) ?_
  refine e_iload_n dX12_voiced_10 rfl ?_
  refine e_iload_n dX12_voiced_11 rfl ?_
  refine c_V3i (nc := 0) (ns := 0) (mc := 0) (ms := 0) (N := mX12_bodyFrom) dX12_voiced_12 lv_X12_305 mo_X12_bodyFrom hR.cn (Nat.le_of_ble_eq_true rfl) (Nat.le_of_ble_eq_true rfl) (by decide) (s_bf21 D hsp hkd ⟨τ, hR, hF, h6, h40, h7, hE⟩ (by decide) x) (fun h hP => ?_)
  obtain ⟨τ, hR, hF, h6, h40, h7, hE⟩ := hP
  exact e_iret dX12_voiced_15 rfl (hp _ ⟨τ, hR, hF, h6, h40, h7, hE⟩)
set_option maxRecDepth 20000 in
theorem s_vc1_3 (D : En) {h0 h : AH} {N : Nat → Int32} {σ0 : Nat → Nat → Int32} {τ0 : Nat → Int32} {sp : Nat} {t : TS} (hsp : sp < 10) (hkd : N (112 + 7 * sp + 0) = nI 3) (hA : TA h0 h N σ0 τ0 sp t) (x : Int32) : Sp D 14 mX12_voiced [.ref 82, .int (nI 1), .int x] h 0 0 (some (.int (rsF 3 3 (nI sp) (N (112 + 7 * sp + 3)) (x) (t)).1)) (fun h' => TA h0 h' N σ0 τ0 sp (rsF 3 3 (nI sp) (N (112 + 7 * sp + 3)) (x) (t)).2) := by
  obtain ⟨τ, hR, hF, h6, h40, h7, hE⟩ := hA
  intro post hp
  show Ev D 14 mX12_voiced 0 [some (.ref (82)), some (.int (nI (1))), some (.int (x))] [] h 0 0 post
  refine e_aload_n dX12_voiced_0 rfl ?_
  refine e_aload_n dX12_voiced_1 rfl ?_
  refine e_aload_n dX12_voiced_2 rfl ?_
  refine e_get dX12_voiced_3 fl_X12_302_12 hR.1 rfl ?_
  refine e_top (nI (sp)) (h7) ?_
  refine e_iconst (nI (0)) dX12_voiced_6 (by decide) ?_
  refine c_V2iR (N := mX12_thing) dX12_voiced_7 lv_X12_136 mo_X12_thing hR.cn (Nat.le_of_ble_eq_true rfl) (Nat.le_of_ble_eq_true rfl) (by decide) (s_thing D hR (sp) (0) (by omega) (by omega)) ?_
  refine e_top (nI (3)) (hkd) ?_
  refine e_iload_n dX12_voiced_10 rfl ?_
  refine e_iload_n dX12_voiced_11 rfl ?_
  refine c_V3i (nc := 0) (ns := 0) (mc := 0) (ms := 0) (N := mX12_bodyFrom) dX12_voiced_12 lv_X12_305 mo_X12_bodyFrom hR.cn (Nat.le_of_ble_eq_true rfl) (Nat.le_of_ble_eq_true rfl) (by decide) (s_bf31 D hsp hkd ⟨τ, hR, hF, h6, h40, h7, hE⟩ (by decide) x) (fun h hP => ?_)
  obtain ⟨τ, hR, hF, h6, h40, h7, hE⟩ := hP
  exact e_iret dX12_voiced_15 rfl (hp _ ⟨τ, hR, hF, h6, h40, h7, hE⟩)
set_option maxRecDepth 20000 in
theorem s_vc1_4 (D : En) {h0 h : AH} {N : Nat → Int32} {σ0 : Nat → Nat → Int32} {τ0 : Nat → Int32} {sp : Nat} {t : TS} (hsp : sp < 10) (hkd : N (112 + 7 * sp + 0) = nI 4) (hA : TA h0 h N σ0 τ0 sp t) (x : Int32) : Sp D 14 mX12_voiced [.ref 82, .int (nI 1), .int x] h 0 0 (some (.int (rsF 4 4 (nI sp) (N (112 + 7 * sp + 3)) (x) (t)).1)) (fun h' => TA h0 h' N σ0 τ0 sp (rsF 4 4 (nI sp) (N (112 + 7 * sp + 3)) (x) (t)).2) := by
  obtain ⟨τ, hR, hF, h6, h40, h7, hE⟩ := hA
  intro post hp
  show Ev D 14 mX12_voiced 0 [some (.ref (82)), some (.int (nI (1))), some (.int (x))] [] h 0 0 post
  refine e_aload_n dX12_voiced_0 rfl ?_
  refine e_aload_n dX12_voiced_1 rfl ?_
  refine e_aload_n dX12_voiced_2 rfl ?_
  refine e_get dX12_voiced_3 fl_X12_302_12 hR.1 rfl ?_
  refine e_top (nI (sp)) (h7) ?_
  refine e_iconst (nI (0)) dX12_voiced_6 (by decide) ?_
  refine c_V2iR (N := mX12_thing) dX12_voiced_7 lv_X12_136 mo_X12_thing hR.cn (Nat.le_of_ble_eq_true rfl) (Nat.le_of_ble_eq_true rfl) (by decide) (s_thing D hR (sp) (0) (by omega) (by omega)) ?_
  refine e_top (nI (4)) (hkd) ?_
  refine e_iload_n dX12_voiced_10 rfl ?_
  refine e_iload_n dX12_voiced_11 rfl ?_
  refine c_V3i (nc := 0) (ns := 0) (mc := 0) (ms := 0) (N := mX12_bodyFrom) dX12_voiced_12 lv_X12_305 mo_X12_bodyFrom hR.cn (Nat.le_of_ble_eq_true rfl) (Nat.le_of_ble_eq_true rfl) (by decide) (s_bf41 D hsp hkd ⟨τ, hR, hF, h6, h40, h7, hE⟩ (by decide) x) (fun h hP => ?_)
  obtain ⟨τ, hR, hF, h6, h40, h7, hE⟩ := hP
  exact e_iret dX12_voiced_15 rfl (hp _ ⟨τ, hR, hF, h6, h40, h7, hE⟩)
set_option maxRecDepth 20000 in
theorem s_vc1_5 (D : En) {h0 h : AH} {N : Nat → Int32} {σ0 : Nat → Nat → Int32} {τ0 : Nat → Int32} {sp : Nat} {t : TS} (hsp : sp < 10) (hkd : N (112 + 7 * sp + 0) = nI 5) (hA : TA h0 h N σ0 τ0 sp t) (x : Int32) : Sp D 14 mX12_voiced [.ref 82, .int (nI 1), .int x] h 0 0 (some (.int (rsF 5 5 (nI sp) (N (112 + 7 * sp + 3)) (x) (t)).1)) (fun h' => TA h0 h' N σ0 τ0 sp (rsF 5 5 (nI sp) (N (112 + 7 * sp + 3)) (x) (t)).2) := by
  obtain ⟨τ, hR, hF, h6, h40, h7, hE⟩ := hA
  intro post hp
  show Ev D 14 mX12_voiced 0 [some (.ref (82)), some (.int (nI (1))), some (.int (x))] [] h 0 0 post
  refine e_aload_n dX12_voiced_0 rfl ?_
  refine e_aload_n dX12_voiced_1 rfl ?_
  refine e_aload_n dX12_voiced_2 rfl ?_
  refine e_get dX12_voiced_3 fl_X12_302_12 hR.1 rfl ?_
  refine e_top (nI (sp)) (h7) ?_
  refine e_iconst (nI (0)) dX12_voiced_6 (by decide) ?_
  refine c_V2iR (N := mX12_thing) dX12_voiced_7 lv_X12_136 mo_X12_thing hR.cn (Nat.le_of_ble_eq_true rfl) (Nat.le_of_ble_eq_true rfl) (by decide) (s_thing D hR (sp) (0) (by omega) (by omega)) ?_
  refine e_top (nI (5)) (hkd) ?_
  refine e_iload_n dX12_voiced_10 rfl ?_
  refine e_iload_n dX12_voiced_11 rfl ?_
  refine c_V3i (nc := 0) (ns := 0) (mc := 0) (ms := 0) (N := mX12_bodyFrom) dX12_voiced_12 lv_X12_305 mo_X12_bodyFrom hR.cn (Nat.le_of_ble_eq_true rfl) (Nat.le_of_ble_eq_true rfl) (by decide) (s_bf51 D hsp hkd ⟨τ, hR, hF, h6, h40, h7, hE⟩ (by decide) x) (fun h hP => ?_)
  obtain ⟨τ, hR, hF, h6, h40, h7, hE⟩ := hP
  exact e_iret dX12_voiced_15 rfl (hp _ ⟨τ, hR, hF, h6, h40, h7, hE⟩)
set_option maxRecDepth 20000 in
theorem s_vc1_6 (D : En) {h0 h : AH} {N : Nat → Int32} {σ0 : Nat → Nat → Int32} {τ0 : Nat → Int32} {sp : Nat} {t : TS} (hsp : sp < 10) (hkd : N (112 + 7 * sp + 0) = nI 6) (hA : TA h0 h N σ0 τ0 sp t) (x : Int32) : Sp D 14 mX12_voiced [.ref 82, .int (nI 1), .int x] h 0 0 (some (.int (rsF 6 6 (nI sp) (N (112 + 7 * sp + 3)) (x) (t)).1)) (fun h' => TA h0 h' N σ0 τ0 sp (rsF 6 6 (nI sp) (N (112 + 7 * sp + 3)) (x) (t)).2) := by
  obtain ⟨τ, hR, hF, h6, h40, h7, hE⟩ := hA
  intro post hp
  show Ev D 14 mX12_voiced 0 [some (.ref (82)), some (.int (nI (1))), some (.int (x))] [] h 0 0 post
  refine e_aload_n dX12_voiced_0 rfl ?_
  refine e_aload_n dX12_voiced_1 rfl ?_
  refine e_aload_n dX12_voiced_2 rfl ?_
  refine e_get dX12_voiced_3 fl_X12_302_12 hR.1 rfl ?_
  refine e_top (nI (sp)) (h7) ?_
  refine e_iconst (nI (0)) dX12_voiced_6 (by decide) ?_
  refine c_V2iR (N := mX12_thing) dX12_voiced_7 lv_X12_136 mo_X12_thing hR.cn (Nat.le_of_ble_eq_true rfl) (Nat.le_of_ble_eq_true rfl) (by decide) (s_thing D hR (sp) (0) (by omega) (by omega)) ?_
  refine e_top (nI (6)) (hkd) ?_
  refine e_iload_n dX12_voiced_10 rfl ?_
  refine e_iload_n dX12_voiced_11 rfl ?_
  refine c_V3i (nc := 0) (ns := 0) (mc := 0) (ms := 0) (N := mX12_bodyFrom) dX12_voiced_12 lv_X12_305 mo_X12_bodyFrom hR.cn (Nat.le_of_ble_eq_true rfl) (Nat.le_of_ble_eq_true rfl) (by decide) (s_bf61 D hsp hkd ⟨τ, hR, hF, h6, h40, h7, hE⟩ (by decide) x) (fun h hP => ?_)
  obtain ⟨τ, hR, hF, h6, h40, h7, hE⟩ := hP
  exact e_iret dX12_voiced_15 rfl (hp _ ⟨τ, hR, hF, h6, h40, h7, hE⟩)
theorem s_vc1 (D : En) {h0 h : AH} {N : Nat → Int32} {σ0 : Nat → Nat → Int32} {τ0 : Nat → Int32} {sp K : Nat} {t : TS} (hsp : sp < 10) (hkd : N (112 + 7 * sp + 0) = nI K) (hA : TA h0 h N σ0 τ0 sp t) (hK7 : K < 7) (x : Int32) : Sp D 14 mX12_voiced [.ref 82, .int (nI 1), .int x] h 0 0 (some (.int (rsF K K (nI sp) (N (112 + 7 * sp + 3)) (x) (t)).1)) (fun h' => TA h0 h' N σ0 τ0 sp (rsF K K (nI sp) (N (112 + 7 * sp + 3)) (x) (t)).2) := by
  rcases (show K = 0 ∨ K = 1 ∨ K = 2 ∨ K = 3 ∨ K = 4 ∨ K = 5 ∨ K = 6 by omega) with rfl | rfl | rfl | rfl | rfl | rfl | rfl
  · exact s_vc1_0 D hsp hkd hA x
  · exact s_vc1_1 D hsp hkd hA x
  · exact s_vc1_2 D hsp hkd hA x
  · exact s_vc1_3 D hsp hkd hA x
  · exact s_vc1_4 D hsp hkd hA x
  · exact s_vc1_5 D hsp hkd hA x
  · exact s_vc1_6 D hsp hkd hA x
set_option maxRecDepth 20000 in
theorem s_bd03 (D : En) {h0 h : AH} {N : Nat → Int32} {σ0 : Nat → Nat → Int32} {τ0 : Nat → Int32} {sp K : Nat} {t : TS} (hsp : sp < 10) (hkd : N (112 + 7 * sp + 0) = nI K) (hA : TA h0 h N σ0 τ0 sp t) (hK7 : K < 7) (x : Int32) : Sp D 15 mX12_body [.ref (82), .int (nI (0)), .int (nI (3)), .int (x)] h 0 0 (some (.int ((tlB K (nI sp) (N (112 + 7 * sp + 3)) x t).1))) (fun h' => TA h0 h' N σ0 τ0 sp (tlB K (nI sp) (N (112 + 7 * sp + 3)) x t).2) := by
  obtain ⟨τ, hR, hF, h6, h40, h7, hE⟩ := hA
  intro post hp
  show Ev D 15 mX12_body 0 [some (.ref (82)), some (.int (nI (0))), some (.int (nI (3))), some (.int (x)), none] [] h 0 0 post
  refine e_iconst (nI (4)) dX12_body_0 (by decide) ?_
  refine e_iload_n dX12_body_1 rfl ?_
  refine e_imulN dX12_body_2 ?_
  refine e_iload_n dX12_body_3 rfl ?_
  refine e_iaddN dX12_body_4 ?_
  refine e_tableIn (off := 149) 154 dX12_body_5 (by decide) (by decide) (by decide) (by decide) ?_
  refine e_aload_n dX12_body_154 rfl ?_
  refine e_bipush (nI (13)) dX12_body_155 (by decide) ?_
  refine c_V1v (nc := 0) (ns := 0) (mc := 0) (ms := 0) (N := mX12_began) dX12_body_157 lv_X12_314 mo_X12_began hR.cn (Nat.le_of_ble_eq_true rfl) (Nat.le_of_ble_eq_true rfl) (by decide) (s_began D (nI (13)) ⟨τ, hR, hF, h6, h40, h7, hE⟩) (fun h hP => ?_)
  obtain ⟨τ, hR, hF, h6, h40, h7, hE⟩ := hP
  refine e_aload_n dX12_body_160 rfl ?_
  refine e_iconst (nI (1)) dX12_body_161 (by decide) ?_
  refine e_iload_n dX12_body_162 rfl ?_
  refine c_V2i (nc := 0) (ns := 0) (mc := 0) (ms := 0) (N := mX12_voiced) dX12_body_163 lv_X12_317 mo_X12_voiced hR.cn (Nat.le_of_ble_eq_true rfl) (Nat.le_of_ble_eq_true rfl) (by decide) (s_vc1 D hsp hkd ⟨τ, hR, hF, h6, h40, h7, hE⟩ hK7 ((x))) (fun h hP => ?_)
  obtain ⟨τ, hR, hF, h6, h40, h7, hE⟩ := hP
  refine e_istore dX12_body_166 (by decide) ?_
  refine e_iload dX12_body_168 rfl ?_
  refine e_aload_n dX12_body_170 rfl ?_
  refine e_iconst (nI (2)) dX12_body_171 (by decide) ?_
  refine e_iload_n dX12_body_172 rfl ?_
  refine c_V2i (nc := 0) (ns := 0) (mc := 0) (ms := 0) (N := mX12_voiced) dX12_body_173 lv_X12_317 mo_X12_voiced hR.cn (Nat.le_of_ble_eq_true rfl) (Nat.le_of_ble_eq_true rfl) (by decide) (s_vc2 D hsp hkd ⟨τ, hR, hF, h6, h40, h7, hE⟩ ((x)) hK7) (fun h hP => ?_)
  obtain ⟨τ, hR, hF, h6, h40, h7, hE⟩ := hP
  refine e_ixor dX12_body_176 ?_
  exact e_iret dX12_body_177 rfl (hp _ ⟨τ, hR, hF, h6, h40, h7, hE⟩)
set_option maxRecDepth 20000 in
theorem s_bf03 (D : En) {h0 h : AH} {N : Nat → Int32} {σ0 : Nat → Nat → Int32} {τ0 : Nat → Int32} {sp K : Nat} {t : TS} (hsp : sp < 10) (hkd : N (112 + 7 * sp + 0) = nI K) (hA : TA h0 h N σ0 τ0 sp t) (hK7 : K < 7) (x : Int32) : Sp D 16 mX12_bodyFrom [.ref (82), .int (nI (0)), .int (nI (3)), .int (x)] h 0 0 (some (.int ((tlF 0 K (nI sp) (N (112 + 7 * sp + 3)) (x) (t)).1))) (fun h' => TA h0 h' N σ0 τ0 sp (tlF 0 K (nI sp) (N (112 + 7 * sp + 3)) (x) (t)).2) := by
  obtain ⟨τ, hR, hF, h6, h40, h7, hE⟩ := hA
  intro post hp
  show Ev D 16 mX12_bodyFrom 0 [some (.ref (82)), some (.int (nI (0))), some (.int (nI (3))), some (.int (x)), none] [] h 0 0 post
  refine e_iload_n dX12_bodyFrom_0 rfl ?_
  refine e_istore dX12_bodyFrom_1 (by decide) ?_
  refine e_iload dX12_bodyFrom_3 rfl ?_
  refine e_iload_n dX12_bodyFrom_5 rfl ?_
  refine c_S2iR (N := mX12_hasOwn) dX12_bodyFrom_6 ls_X12_308 mo_X12_hasOwn  (Nat.le_of_ble_eq_true rfl) (Nat.le_of_ble_eq_true rfl) (by decide) (s_own03 D) ?_
  refine e_if_neN 22 dX12_bodyFrom_9 (by decide) (by omega) (fun hcq9 => ?_) (fun hcq9 => absurd hcq9 (by decide))
  refine e_aload_n dX12_bodyFrom_22 rfl ?_
  refine e_iload dX12_bodyFrom_23 rfl ?_
  refine e_iload_n dX12_bodyFrom_25 rfl ?_
  refine e_iload_n dX12_bodyFrom_26 rfl ?_
  refine c_V3i (nc := 0) (ns := 0) (mc := 0) (ms := 0) (N := mX12_body) dX12_bodyFrom_27 lv_X12_311 mo_X12_body hR.cn (Nat.le_of_ble_eq_true rfl) (Nat.le_of_ble_eq_true rfl) (by decide) (s_bd03 D hsp hkd ⟨τ, hR, hF, h6, h40, h7, hE⟩ hK7 x) (fun h hP => ?_)
  obtain ⟨τ, hR, hF, h6, h40, h7, hE⟩ := hP
  exact e_iret dX12_bodyFrom_30 rfl (hp _ ⟨τ, hR, hF, h6, h40, h7, hE⟩)
set_option maxRecDepth 20000 in
theorem s_bf13 (D : En) {h0 h : AH} {N : Nat → Int32} {σ0 : Nat → Nat → Int32} {τ0 : Nat → Int32} {sp K : Nat} {t : TS} (hsp : sp < 10) (hkd : N (112 + 7 * sp + 0) = nI K) (hA : TA h0 h N σ0 τ0 sp t) (hK7 : K < 7) (x : Int32) : Sp D 16 mX12_bodyFrom [.ref (82), .int (nI (1)), .int (nI (3)), .int (x)] h 0 0 (some (.int ((tlF 1 K (nI sp) (N (112 + 7 * sp + 3)) (x) (t)).1))) (fun h' => TA h0 h' N σ0 τ0 sp (tlF 1 K (nI sp) (N (112 + 7 * sp + 3)) (x) (t)).2) := by
  obtain ⟨τ, hR, hF, h6, h40, h7, hE⟩ := hA
  intro post hp
  show Ev D 16 mX12_bodyFrom 0 [some (.ref (82)), some (.int (nI (1))), some (.int (nI (3))), some (.int (x)), none] [] h 0 0 post
  refine e_iload_n dX12_bodyFrom_0 rfl ?_
  refine e_istore dX12_bodyFrom_1 (by decide) ?_
  refine e_iload dX12_bodyFrom_3 rfl ?_
  refine e_iload_n dX12_bodyFrom_5 rfl ?_
  refine c_S2iR (N := mX12_hasOwn) dX12_bodyFrom_6 ls_X12_308 mo_X12_hasOwn  (Nat.le_of_ble_eq_true rfl) (Nat.le_of_ble_eq_true rfl) (by decide) (s_own13 D) ?_
  refine e_if_neN 22 dX12_bodyFrom_9 (by decide) (by omega) (fun hcq9 => absurd hcq9 (by decide)) (fun hcq9 => ?_)
  refine e_iload dX12_bodyFrom_12 rfl ?_
  refine c_S1iR (N := mX12_above) dX12_bodyFrom_14 ls_X12_154 mo_X12_above  (Nat.le_of_ble_eq_true rfl) (Nat.le_of_ble_eq_true rfl) (by decide) (s_abv1 D) ?_
  refine e_istore dX12_bodyFrom_17 (by decide) ?_
  refine e_goto 3 dX12_bodyFrom_19 (by decide) ?_
  refine e_iload dX12_bodyFrom_3 rfl ?_
  refine e_iload_n dX12_bodyFrom_5 rfl ?_
  refine c_S2iR (N := mX12_hasOwn) dX12_bodyFrom_6 ls_X12_308 mo_X12_hasOwn  (Nat.le_of_ble_eq_true rfl) (Nat.le_of_ble_eq_true rfl) (by decide) (s_own03 D) ?_
  refine e_if_neN 22 dX12_bodyFrom_9 (by decide) (by omega) (fun hcq9 => ?_) (fun hcq9 => absurd hcq9 (by decide))
  refine e_aload_n dX12_bodyFrom_22 rfl ?_
  refine e_iload dX12_bodyFrom_23 rfl ?_
  refine e_iload_n dX12_bodyFrom_25 rfl ?_
  refine e_iload_n dX12_bodyFrom_26 rfl ?_
  refine c_V3i (nc := 0) (ns := 0) (mc := 0) (ms := 0) (N := mX12_body) dX12_bodyFrom_27 lv_X12_311 mo_X12_body hR.cn (Nat.le_of_ble_eq_true rfl) (Nat.le_of_ble_eq_true rfl) (by decide) (s_bd03 D hsp hkd ⟨τ, hR, hF, h6, h40, h7, hE⟩ hK7 x) (fun h hP => ?_)
  obtain ⟨τ, hR, hF, h6, h40, h7, hE⟩ := hP
  exact e_iret dX12_bodyFrom_30 rfl (hp _ ⟨τ, hR, hF, h6, h40, h7, hE⟩)
set_option maxRecDepth 20000 in
theorem s_bf23 (D : En) {h0 h : AH} {N : Nat → Int32} {σ0 : Nat → Nat → Int32} {τ0 : Nat → Int32} {sp K : Nat} {t : TS} (hsp : sp < 10) (hkd : N (112 + 7 * sp + 0) = nI K) (hA : TA h0 h N σ0 τ0 sp t) (hK7 : K < 7) (x : Int32) : Sp D 16 mX12_bodyFrom [.ref (82), .int (nI (2)), .int (nI (3)), .int (x)] h 0 0 (some (.int ((tlF 2 K (nI sp) (N (112 + 7 * sp + 3)) (x) (t)).1))) (fun h' => TA h0 h' N σ0 τ0 sp (tlF 2 K (nI sp) (N (112 + 7 * sp + 3)) (x) (t)).2) := by
  obtain ⟨τ, hR, hF, h6, h40, h7, hE⟩ := hA
  intro post hp
  show Ev D 16 mX12_bodyFrom 0 [some (.ref (82)), some (.int (nI (2))), some (.int (nI (3))), some (.int (x)), none] [] h 0 0 post
  refine e_iload_n dX12_bodyFrom_0 rfl ?_
  refine e_istore dX12_bodyFrom_1 (by decide) ?_
  refine e_iload dX12_bodyFrom_3 rfl ?_
  refine e_iload_n dX12_bodyFrom_5 rfl ?_
  refine c_S2iR (N := mX12_hasOwn) dX12_bodyFrom_6 ls_X12_308 mo_X12_hasOwn  (Nat.le_of_ble_eq_true rfl) (Nat.le_of_ble_eq_true rfl) (by decide) (s_own23 D) ?_
  refine e_if_neN 22 dX12_bodyFrom_9 (by decide) (by omega) (fun hcq9 => absurd hcq9 (by decide)) (fun hcq9 => ?_)
  refine e_iload dX12_bodyFrom_12 rfl ?_
  refine c_S1iR (N := mX12_above) dX12_bodyFrom_14 ls_X12_154 mo_X12_above  (Nat.le_of_ble_eq_true rfl) (Nat.le_of_ble_eq_true rfl) (by decide) (s_abv2 D) ?_
  refine e_istore dX12_bodyFrom_17 (by decide) ?_
  refine e_goto 3 dX12_bodyFrom_19 (by decide) ?_
  refine e_iload dX12_bodyFrom_3 rfl ?_
  refine e_iload_n dX12_bodyFrom_5 rfl ?_
  refine c_S2iR (N := mX12_hasOwn) dX12_bodyFrom_6 ls_X12_308 mo_X12_hasOwn  (Nat.le_of_ble_eq_true rfl) (Nat.le_of_ble_eq_true rfl) (by decide) (s_own03 D) ?_
  refine e_if_neN 22 dX12_bodyFrom_9 (by decide) (by omega) (fun hcq9 => ?_) (fun hcq9 => absurd hcq9 (by decide))
  refine e_aload_n dX12_bodyFrom_22 rfl ?_
  refine e_iload dX12_bodyFrom_23 rfl ?_
  refine e_iload_n dX12_bodyFrom_25 rfl ?_
  refine e_iload_n dX12_bodyFrom_26 rfl ?_
  refine c_V3i (nc := 0) (ns := 0) (mc := 0) (ms := 0) (N := mX12_body) dX12_bodyFrom_27 lv_X12_311 mo_X12_body hR.cn (Nat.le_of_ble_eq_true rfl) (Nat.le_of_ble_eq_true rfl) (by decide) (s_bd03 D hsp hkd ⟨τ, hR, hF, h6, h40, h7, hE⟩ hK7 x) (fun h hP => ?_)
  obtain ⟨τ, hR, hF, h6, h40, h7, hE⟩ := hP
  exact e_iret dX12_bodyFrom_30 rfl (hp _ ⟨τ, hR, hF, h6, h40, h7, hE⟩)
set_option maxRecDepth 20000 in
theorem s_bf33 (D : En) {h0 h : AH} {N : Nat → Int32} {σ0 : Nat → Nat → Int32} {τ0 : Nat → Int32} {sp K : Nat} {t : TS} (hsp : sp < 10) (hkd : N (112 + 7 * sp + 0) = nI K) (hA : TA h0 h N σ0 τ0 sp t) (hK7 : K < 7) (x : Int32) : Sp D 16 mX12_bodyFrom [.ref (82), .int (nI (3)), .int (nI (3)), .int (x)] h 0 0 (some (.int ((tlF 3 K (nI sp) (N (112 + 7 * sp + 3)) (x) (t)).1))) (fun h' => TA h0 h' N σ0 τ0 sp (tlF 3 K (nI sp) (N (112 + 7 * sp + 3)) (x) (t)).2) := by
  obtain ⟨τ, hR, hF, h6, h40, h7, hE⟩ := hA
  intro post hp
  show Ev D 16 mX12_bodyFrom 0 [some (.ref (82)), some (.int (nI (3))), some (.int (nI (3))), some (.int (x)), none] [] h 0 0 post
  refine e_iload_n dX12_bodyFrom_0 rfl ?_
  refine e_istore dX12_bodyFrom_1 (by decide) ?_
  refine e_iload dX12_bodyFrom_3 rfl ?_
  refine e_iload_n dX12_bodyFrom_5 rfl ?_
  refine c_S2iR (N := mX12_hasOwn) dX12_bodyFrom_6 ls_X12_308 mo_X12_hasOwn  (Nat.le_of_ble_eq_true rfl) (Nat.le_of_ble_eq_true rfl) (by decide) (s_own33 D) ?_
  refine e_if_neN 22 dX12_bodyFrom_9 (by decide) (by omega) (fun hcq9 => absurd hcq9 (by decide)) (fun hcq9 => ?_)
  refine e_iload dX12_bodyFrom_12 rfl ?_
  refine c_S1iR (N := mX12_above) dX12_bodyFrom_14 ls_X12_154 mo_X12_above  (Nat.le_of_ble_eq_true rfl) (Nat.le_of_ble_eq_true rfl) (by decide) (s_abv3 D) ?_
  refine e_istore dX12_bodyFrom_17 (by decide) ?_
  refine e_goto 3 dX12_bodyFrom_19 (by decide) ?_
  refine e_iload dX12_bodyFrom_3 rfl ?_
  refine e_iload_n dX12_bodyFrom_5 rfl ?_
  refine c_S2iR (N := mX12_hasOwn) dX12_bodyFrom_6 ls_X12_308 mo_X12_hasOwn  (Nat.le_of_ble_eq_true rfl) (Nat.le_of_ble_eq_true rfl) (by decide) (s_own23 D) ?_
  refine e_if_neN 22 dX12_bodyFrom_9 (by decide) (by omega) (fun hcq9 => absurd hcq9 (by decide)) (fun hcq9 => ?_)
  refine e_iload dX12_bodyFrom_12 rfl ?_
  refine c_S1iR (N := mX12_above) dX12_bodyFrom_14 ls_X12_154 mo_X12_above  (Nat.le_of_ble_eq_true rfl) (Nat.le_of_ble_eq_true rfl) (by decide) (s_abv2 D) ?_
  refine e_istore dX12_bodyFrom_17 (by decide) ?_
  refine e_goto 3 dX12_bodyFrom_19 (by decide) ?_
  refine e_iload dX12_bodyFrom_3 rfl ?_
  refine e_iload_n dX12_bodyFrom_5 rfl ?_
  refine c_S2iR (N := mX12_hasOwn) dX12_bodyFrom_6 ls_X12_308 mo_X12_hasOwn  (Nat.le_of_ble_eq_true rfl) (Nat.le_of_ble_eq_true rfl) (by decide) (s_own03 D) ?_
  refine e_if_neN 22 dX12_bodyFrom_9 (by decide) (by omega) (fun hcq9 => ?_) (fun hcq9 => absurd hcq9 (by decide))
  refine e_aload_n dX12_bodyFrom_22 rfl ?_
  refine e_iload dX12_bodyFrom_23 rfl ?_
  refine e_iload_n dX12_bodyFrom_25 rfl ?_
  refine e_iload_n dX12_bodyFrom_26 rfl ?_
  refine c_V3i (nc := 0) (ns := 0) (mc := 0) (ms := 0) (N := mX12_body) dX12_bodyFrom_27 lv_X12_311 mo_X12_body hR.cn (Nat.le_of_ble_eq_true rfl) (Nat.le_of_ble_eq_true rfl) (by decide) (s_bd03 D hsp hkd ⟨τ, hR, hF, h6, h40, h7, hE⟩ hK7 x) (fun h hP => ?_)
  obtain ⟨τ, hR, hF, h6, h40, h7, hE⟩ := hP
  exact e_iret dX12_bodyFrom_30 rfl (hp _ ⟨τ, hR, hF, h6, h40, h7, hE⟩)
set_option maxRecDepth 20000 in
theorem s_bf53 (D : En) {h0 h : AH} {N : Nat → Int32} {σ0 : Nat → Nat → Int32} {τ0 : Nat → Int32} {sp K : Nat} {t : TS} (hsp : sp < 10) (hkd : N (112 + 7 * sp + 0) = nI K) (hA : TA h0 h N σ0 τ0 sp t) (hK7 : K < 7) (x : Int32) : Sp D 16 mX12_bodyFrom [.ref (82), .int (nI (5)), .int (nI (3)), .int (x)] h 0 0 (some (.int ((tlF 5 K (nI sp) (N (112 + 7 * sp + 3)) (x) (t)).1))) (fun h' => TA h0 h' N σ0 τ0 sp (tlF 5 K (nI sp) (N (112 + 7 * sp + 3)) (x) (t)).2) := by
  obtain ⟨τ, hR, hF, h6, h40, h7, hE⟩ := hA
  intro post hp
  show Ev D 16 mX12_bodyFrom 0 [some (.ref (82)), some (.int (nI (5))), some (.int (nI (3))), some (.int (x)), none] [] h 0 0 post
  refine e_iload_n dX12_bodyFrom_0 rfl ?_
  refine e_istore dX12_bodyFrom_1 (by decide) ?_
  refine e_iload dX12_bodyFrom_3 rfl ?_
  refine e_iload_n dX12_bodyFrom_5 rfl ?_
  refine c_S2iR (N := mX12_hasOwn) dX12_bodyFrom_6 ls_X12_308 mo_X12_hasOwn  (Nat.le_of_ble_eq_true rfl) (Nat.le_of_ble_eq_true rfl) (by decide) (s_own53 D) ?_
  refine e_if_neN 22 dX12_bodyFrom_9 (by decide) (by omega) (fun hcq9 => absurd hcq9 (by decide)) (fun hcq9 => ?_)
  refine e_iload dX12_bodyFrom_12 rfl ?_
  refine c_S1iR (N := mX12_above) dX12_bodyFrom_14 ls_X12_154 mo_X12_above  (Nat.le_of_ble_eq_true rfl) (Nat.le_of_ble_eq_true rfl) (by decide) (s_abv5 D) ?_
  refine e_istore dX12_bodyFrom_17 (by decide) ?_
  refine e_goto 3 dX12_bodyFrom_19 (by decide) ?_
  refine e_iload dX12_bodyFrom_3 rfl ?_
  refine e_iload_n dX12_bodyFrom_5 rfl ?_
  refine c_S2iR (N := mX12_hasOwn) dX12_bodyFrom_6 ls_X12_308 mo_X12_hasOwn  (Nat.le_of_ble_eq_true rfl) (Nat.le_of_ble_eq_true rfl) (by decide) (s_own13 D) ?_
  refine e_if_neN 22 dX12_bodyFrom_9 (by decide) (by omega) (fun hcq9 => absurd hcq9 (by decide)) (fun hcq9 => ?_)
  refine e_iload dX12_bodyFrom_12 rfl ?_
  refine c_S1iR (N := mX12_above) dX12_bodyFrom_14 ls_X12_154 mo_X12_above  (Nat.le_of_ble_eq_true rfl) (Nat.le_of_ble_eq_true rfl) (by decide) (s_abv1 D) ?_
  refine e_istore dX12_bodyFrom_17 (by decide) ?_
  refine e_goto 3 dX12_bodyFrom_19 (by decide) ?_
  refine e_iload dX12_bodyFrom_3 rfl ?_
  refine e_iload_n dX12_bodyFrom_5 rfl ?_
  refine c_S2iR (N := mX12_hasOwn) dX12_bodyFrom_6 ls_X12_308 mo_X12_hasOwn  (Nat.le_of_ble_eq_true rfl) (Nat.le_of_ble_eq_true rfl) (by decide) (s_own03 D) ?_
  refine e_if_neN 22 dX12_bodyFrom_9 (by decide) (by omega) (fun hcq9 => ?_) (fun hcq9 => absurd hcq9 (by decide))
  refine e_aload_n dX12_bodyFrom_22 rfl ?_
  refine e_iload dX12_bodyFrom_23 rfl ?_
  refine e_iload_n dX12_bodyFrom_25 rfl ?_
  refine e_iload_n dX12_bodyFrom_26 rfl ?_
  refine c_V3i (nc := 0) (ns := 0) (mc := 0) (ms := 0) (N := mX12_body) dX12_bodyFrom_27 lv_X12_311 mo_X12_body hR.cn (Nat.le_of_ble_eq_true rfl) (Nat.le_of_ble_eq_true rfl) (by decide) (s_bd03 D hsp hkd ⟨τ, hR, hF, h6, h40, h7, hE⟩ hK7 x) (fun h hP => ?_)
  obtain ⟨τ, hR, hF, h6, h40, h7, hE⟩ := hP
  exact e_iret dX12_bodyFrom_30 rfl (hp _ ⟨τ, hR, hF, h6, h40, h7, hE⟩)
set_option maxRecDepth 20000 in
theorem s_bd43 (D : En) {h0 h : AH} {N : Nat → Int32} {σ0 : Nat → Nat → Int32} {τ0 : Nat → Int32} {sp K : Nat} {t : TS} (hsp : sp < 10) (hkd : N (112 + 7 * sp + 0) = nI K) (hA : TA h0 h N σ0 τ0 sp t) (hK7 : K < 7) (x : Int32) : Sp D 17 mX12_body [.ref (82), .int (nI (4)), .int (nI (3)), .int (x)] h 0 0 (some (.int ((tlS K (nI sp) (N (112 + 7 * sp + 3)) x t).1))) (fun h' => TA h0 h' N σ0 τ0 sp (tlS K (nI sp) (N (112 + 7 * sp + 3)) x t).2) := by
  obtain ⟨τ, hR, hF, h6, h40, h7, hE⟩ := hA
  intro post hp
  show Ev D 17 mX12_body 0 [some (.ref (82)), some (.int (nI (4))), some (.int (nI (3))), some (.int (x)), none] [] h 0 0 post
  refine e_iconst (nI (4)) dX12_body_0 (by decide) ?_
  refine e_iload_n dX12_body_1 rfl ?_
  refine e_imulN dX12_body_2 ?_
  refine e_iload_n dX12_body_3 rfl ?_
  refine e_iaddN dX12_body_4 ?_
  refine e_tableIn (off := 245) 250 dX12_body_5 (by decide) (by decide) (by decide) (by decide) ?_
  refine e_aload_n dX12_body_250 rfl ?_
  refine e_bipush (nI (50)) dX12_body_251 (by decide) ?_
  refine c_V1v (nc := 0) (ns := 0) (mc := 0) (ms := 0) (N := mX12_began) dX12_body_253 lv_X12_314 mo_X12_began hR.cn (Nat.le_of_ble_eq_true rfl) (Nat.le_of_ble_eq_true rfl) (by decide) (s_began D (nI (50)) ⟨τ, hR, hF, h6, h40, h7, hE⟩) (fun h hP => ?_)
  obtain ⟨τ, hR, hF, h6, h40, h7, hE⟩ := hP
  refine e_aload_n dX12_body_256 rfl ?_
  refine e_iconst (nI (0)) dX12_body_257 (by decide) ?_
  refine e_iconst (nI (3)) dX12_body_258 (by decide) ?_
  refine e_iload_n dX12_body_259 rfl ?_
  refine c_V3i (nc := 0) (ns := 0) (mc := 0) (ms := 0) (N := mX12_bodyFrom) dX12_body_260 lv_X12_305 mo_X12_bodyFrom hR.cn (Nat.le_of_ble_eq_true rfl) (Nat.le_of_ble_eq_true rfl) (by decide) (s_bf03 D hsp hkd ⟨τ, hR, hF, h6, h40, h7, hE⟩ hK7 ((x))) (fun h hP => ?_)
  obtain ⟨τ, hR, hF, h6, h40, h7, hE⟩ := hP
  refine e_istore dX12_body_263 (by decide) ?_
  refine e_iload dX12_body_265 rfl ?_
  refine e_aload_n dX12_body_267 rfl ?_
  refine e_iconst (nI (0)) dX12_body_268 (by decide) ?_
  refine e_iconst (nI (2)) dX12_body_269 (by decide) ?_
  refine c_V2i (nc := 0) (ns := 0) (mc := 0) (ms := 0) (N := mX12_voiced) dX12_body_270 lv_X12_317 mo_X12_voiced hR.cn (Nat.le_of_ble_eq_true rfl) (Nat.le_of_ble_eq_true rfl) (by decide) (s_vc0 D hsp hkd ⟨τ, hR, hF, h6, h40, h7, hE⟩ (nI (2)) hK7) (fun h hP => ?_)
  obtain ⟨τ, hR, hF, h6, h40, h7, hE⟩ := hP
  refine e_isub dX12_body_273 ?_
  exact e_iret dX12_body_274 rfl (hp _ ⟨τ, hR, hF, h6, h40, h7, hE⟩)
set_option maxRecDepth 20000 in
theorem s_bf43 (D : En) {h0 h : AH} {N : Nat → Int32} {σ0 : Nat → Nat → Int32} {τ0 : Nat → Int32} {sp K : Nat} {t : TS} (hsp : sp < 10) (hkd : N (112 + 7 * sp + 0) = nI K) (hA : TA h0 h N σ0 τ0 sp t) (hK7 : K < 7) (x : Int32) : Sp D 18 mX12_bodyFrom [.ref (82), .int (nI (4)), .int (nI (3)), .int (x)] h 0 0 (some (.int ((tlF 4 K (nI sp) (N (112 + 7 * sp + 3)) (x) (t)).1))) (fun h' => TA h0 h' N σ0 τ0 sp (tlF 4 K (nI sp) (N (112 + 7 * sp + 3)) (x) (t)).2) := by
  obtain ⟨τ, hR, hF, h6, h40, h7, hE⟩ := hA
  intro post hp
  show Ev D 18 mX12_bodyFrom 0 [some (.ref (82)), some (.int (nI (4))), some (.int (nI (3))), some (.int (x)), none] [] h 0 0 post
  refine e_iload_n dX12_bodyFrom_0 rfl ?_
  refine e_istore dX12_bodyFrom_1 (by decide) ?_
  refine e_iload dX12_bodyFrom_3 rfl ?_
  refine e_iload_n dX12_bodyFrom_5 rfl ?_
  refine c_S2iR (N := mX12_hasOwn) dX12_bodyFrom_6 ls_X12_308 mo_X12_hasOwn  (Nat.le_of_ble_eq_true rfl) (Nat.le_of_ble_eq_true rfl) (by decide) (s_own43 D) ?_
  refine e_if_neN 22 dX12_bodyFrom_9 (by decide) (by omega) (fun hcq9 => ?_) (fun hcq9 => absurd hcq9 (by decide))
  refine e_aload_n dX12_bodyFrom_22 rfl ?_
  refine e_iload dX12_bodyFrom_23 rfl ?_
  refine e_iload_n dX12_bodyFrom_25 rfl ?_
  refine e_iload_n dX12_bodyFrom_26 rfl ?_
  refine c_V3i (nc := 0) (ns := 0) (mc := 0) (ms := 0) (N := mX12_body) dX12_bodyFrom_27 lv_X12_311 mo_X12_body hR.cn (Nat.le_of_ble_eq_true rfl) (Nat.le_of_ble_eq_true rfl) (by decide) (s_bd43 D hsp hkd ⟨τ, hR, hF, h6, h40, h7, hE⟩ hK7 x) (fun h hP => ?_)
  obtain ⟨τ, hR, hF, h6, h40, h7, hE⟩ := hP
  exact e_iret dX12_bodyFrom_30 rfl (hp _ ⟨τ, hR, hF, h6, h40, h7, hE⟩)
set_option maxRecDepth 20000 in
theorem s_bd63 (D : En) {h0 h : AH} {N : Nat → Int32} {σ0 : Nat → Nat → Int32} {τ0 : Nat → Int32} {sp K : Nat} {t : TS} (hsp : sp < 10) (hkd : N (112 + 7 * sp + 0) = nI K) (hA : TA h0 h N σ0 τ0 sp t) (hK7 : K < 7) (x : Int32) : Sp D 19 mX12_body [.ref (82), .int (nI (6)), .int (nI (3)), .int (x)] h 0 0 (some (.int ((tlF 6 K (nI sp) (N (112 + 7 * sp + 3)) x t).1))) (fun h' => TA h0 h' N σ0 τ0 sp (tlF 6 K (nI sp) (N (112 + 7 * sp + 3)) x t).2) := by
  obtain ⟨τ, hR, hF, h6, h40, h7, hE⟩ := hA
  intro post hp
  show Ev D 19 mX12_body 0 [some (.ref (82)), some (.int (nI (6))), some (.int (nI (3))), some (.int (x)), none] [] h 0 0 post
  refine e_iconst (nI (4)) dX12_body_0 (by decide) ?_
  refine e_iload_n dX12_body_1 rfl ?_
  refine e_imulN dX12_body_2 ?_
  refine e_iload_n dX12_body_3 rfl ?_
  refine e_iaddN dX12_body_4 ?_
  refine e_tableOut 310 dX12_body_5 (by decide) (by decide) ?_
  refine e_aload_n dX12_body_310 rfl ?_
  refine e_bipush (nI (70)) dX12_body_311 (by decide) ?_
  refine c_V1v (nc := 0) (ns := 0) (mc := 0) (ms := 0) (N := mX12_began) dX12_body_313 lv_X12_314 mo_X12_began hR.cn (Nat.le_of_ble_eq_true rfl) (Nat.le_of_ble_eq_true rfl) (by decide) (s_began D (nI (70)) ⟨τ, hR, hF, h6, h40, h7, hE⟩) (fun h hP => ?_)
  obtain ⟨τ, hR, hF, h6, h40, h7, hE⟩ := hP
  refine e_aload_n dX12_body_316 rfl ?_
  refine e_iconst (nI (1)) dX12_body_317 (by decide) ?_
  refine e_iload_n dX12_body_318 rfl ?_
  refine c_V2i (nc := 0) (ns := 0) (mc := 0) (ms := 0) (N := mX12_voiced) dX12_body_319 lv_X12_317 mo_X12_voiced hR.cn (Nat.le_of_ble_eq_true rfl) (Nat.le_of_ble_eq_true rfl) (by decide) (s_vc1 D hsp hkd ⟨τ, hR, hF, h6, h40, h7, hE⟩ hK7 ((x))) (fun h hP => ?_)
  obtain ⟨τ, hR, hF, h6, h40, h7, hE⟩ := hP
  refine e_istore dX12_body_322 (by decide) ?_
  refine e_iload dX12_body_324 rfl ?_
  refine e_aload_n dX12_body_326 rfl ?_
  refine e_iconst (nI (4)) dX12_body_327 (by decide) ?_
  refine e_iconst (nI (3)) dX12_body_328 (by decide) ?_
  refine e_iload_n dX12_body_329 rfl ?_
  refine c_V3i (nc := 0) (ns := 0) (mc := 0) (ms := 0) (N := mX12_bodyFrom) dX12_body_330 lv_X12_305 mo_X12_bodyFrom hR.cn (Nat.le_of_ble_eq_true rfl) (Nat.le_of_ble_eq_true rfl) (by decide) (s_bf43 D hsp hkd ⟨τ, hR, hF, h6, h40, h7, hE⟩ hK7 ((x))) (fun h hP => ?_)
  obtain ⟨τ, hR, hF, h6, h40, h7, hE⟩ := hP
  refine e_isub dX12_body_333 ?_
  exact e_iret dX12_body_334 rfl (hp _ ⟨τ, hR, hF, h6, h40, h7, hE⟩)
set_option maxRecDepth 20000 in
theorem s_bf63 (D : En) {h0 h : AH} {N : Nat → Int32} {σ0 : Nat → Nat → Int32} {τ0 : Nat → Int32} {sp K : Nat} {t : TS} (hsp : sp < 10) (hkd : N (112 + 7 * sp + 0) = nI K) (hA : TA h0 h N σ0 τ0 sp t) (hK7 : K < 7) (x : Int32) : Sp D 20 mX12_bodyFrom [.ref (82), .int (nI (6)), .int (nI (3)), .int (x)] h 0 0 (some (.int ((tlF 6 K (nI sp) (N (112 + 7 * sp + 3)) (x) (t)).1))) (fun h' => TA h0 h' N σ0 τ0 sp (tlF 6 K (nI sp) (N (112 + 7 * sp + 3)) (x) (t)).2) := by
  obtain ⟨τ, hR, hF, h6, h40, h7, hE⟩ := hA
  intro post hp
  show Ev D 20 mX12_bodyFrom 0 [some (.ref (82)), some (.int (nI (6))), some (.int (nI (3))), some (.int (x)), none] [] h 0 0 post
  refine e_iload_n dX12_bodyFrom_0 rfl ?_
  refine e_istore dX12_bodyFrom_1 (by decide) ?_
  refine e_iload dX12_bodyFrom_3 rfl ?_
  refine e_iload_n dX12_bodyFrom_5 rfl ?_
  refine c_S2iR (N := mX12_hasOwn) dX12_bodyFrom_6 ls_X12_308 mo_X12_hasOwn  (Nat.le_of_ble_eq_true rfl) (Nat.le_of_ble_eq_true rfl) (by decide) (s_own63 D) ?_
  refine e_if_neN 22 dX12_bodyFrom_9 (by decide) (by omega) (fun hcq9 => ?_) (fun hcq9 => absurd hcq9 (by decide))
  refine e_aload_n dX12_bodyFrom_22 rfl ?_
  refine e_iload dX12_bodyFrom_23 rfl ?_
  refine e_iload_n dX12_bodyFrom_25 rfl ?_
  refine e_iload_n dX12_bodyFrom_26 rfl ?_
  refine c_V3i (nc := 0) (ns := 0) (mc := 0) (ms := 0) (N := mX12_body) dX12_bodyFrom_27 lv_X12_311 mo_X12_body hR.cn (Nat.le_of_ble_eq_true rfl) (Nat.le_of_ble_eq_true rfl) (by decide) (s_bd63 D hsp hkd ⟨τ, hR, hF, h6, h40, h7, hE⟩ hK7 x) (fun h hP => ?_)
  obtain ⟨τ, hR, hF, h6, h40, h7, hE⟩ := hP
  exact e_iret dX12_bodyFrom_30 rfl (hp _ ⟨τ, hR, hF, h6, h40, h7, hE⟩)
set_option maxRecDepth 20000 in
theorem s_vc3_0 (D : En) {h0 h : AH} {N : Nat → Int32} {σ0 : Nat → Nat → Int32} {τ0 : Nat → Int32} {sp : Nat} {t : TS} (hsp : sp < 10) (hkd : N (112 + 7 * sp + 0) = nI 0) (hA : TA h0 h N σ0 τ0 sp t) (x : Int32) : Sp D 21 mX12_voiced [.ref 82, .int (nI 3), .int x] h 0 0 (some (.int (tlF 0 0 (nI sp) (N (112 + 7 * sp + 3)) (x) (t)).1)) (fun h' => TA h0 h' N σ0 τ0 sp (tlF 0 0 (nI sp) (N (112 + 7 * sp + 3)) (x) (t)).2) := by
  obtain ⟨τ, hR, hF, h6, h40, h7, hE⟩ := hA
  intro post hp
  show Ev D 21 mX12_voiced 0 [some (.ref (82)), some (.int (nI (3))), some (.int (x))] [] h 0 0 post
  refine e_aload_n dX12_voiced_0 rfl ?_
  refine e_aload_n dX12_voiced_1 rfl ?_
  refine e_aload_n dX12_voiced_2 rfl ?_
  refine e_get dX12_voiced_3 fl_X12_302_12 hR.1 rfl ?_
  refine e_top (nI (sp)) (h7) ?_
  refine e_iconst (nI (0)) dX12_voiced_6 (by decide) ?_
  refine c_V2iR (N := mX12_thing) dX12_voiced_7 lv_X12_136 mo_X12_thing hR.cn (Nat.le_of_ble_eq_true rfl) (Nat.le_of_ble_eq_true rfl) (by decide) (s_thing D hR (sp) (0) (by omega) (by omega)) ?_
  refine e_top (nI (0)) (hkd) ?_
  refine e_iload_n dX12_voiced_10 rfl ?_
  refine e_iload_n dX12_voiced_11 rfl ?_
  refine c_V3i (nc := 0) (ns := 0) (mc := 0) (ms := 0) (N := mX12_bodyFrom) dX12_voiced_12 lv_X12_305 mo_X12_bodyFrom hR.cn (Nat.le_of_ble_eq_true rfl) (Nat.le_of_ble_eq_true rfl) (by decide) (s_bf03 D hsp hkd ⟨τ, hR, hF, h6, h40, h7, hE⟩ (by decide) x) (fun h hP => ?_)
  obtain ⟨τ, hR, hF, h6, h40, h7, hE⟩ := hP
  exact e_iret dX12_voiced_15 rfl (hp _ ⟨τ, hR, hF, h6, h40, h7, hE⟩)
set_option maxRecDepth 20000 in
theorem s_vc3_1 (D : En) {h0 h : AH} {N : Nat → Int32} {σ0 : Nat → Nat → Int32} {τ0 : Nat → Int32} {sp : Nat} {t : TS} (hsp : sp < 10) (hkd : N (112 + 7 * sp + 0) = nI 1) (hA : TA h0 h N σ0 τ0 sp t) (x : Int32) : Sp D 21 mX12_voiced [.ref 82, .int (nI 3), .int x] h 0 0 (some (.int (tlF 1 1 (nI sp) (N (112 + 7 * sp + 3)) (x) (t)).1)) (fun h' => TA h0 h' N σ0 τ0 sp (tlF 1 1 (nI sp) (N (112 + 7 * sp + 3)) (x) (t)).2) := by
  obtain ⟨τ, hR, hF, h6, h40, h7, hE⟩ := hA
  intro post hp
  show Ev D 21 mX12_voiced 0 [some (.ref (82)), some (.int (nI (3))), some (.int (x))] [] h 0 0 post
  refine e_aload_n dX12_voiced_0 rfl ?_
  refine e_aload_n dX12_voiced_1 rfl ?_
  refine e_aload_n dX12_voiced_2 rfl ?_
  refine e_get dX12_voiced_3 fl_X12_302_12 hR.1 rfl ?_
  refine e_top (nI (sp)) (h7) ?_
  refine e_iconst (nI (0)) dX12_voiced_6 (by decide) ?_
  refine c_V2iR (N := mX12_thing) dX12_voiced_7 lv_X12_136 mo_X12_thing hR.cn (Nat.le_of_ble_eq_true rfl) (Nat.le_of_ble_eq_true rfl) (by decide) (s_thing D hR (sp) (0) (by omega) (by omega)) ?_
  refine e_top (nI (1)) (hkd) ?_
  refine e_iload_n dX12_voiced_10 rfl ?_
  refine e_iload_n dX12_voiced_11 rfl ?_
  refine c_V3i (nc := 0) (ns := 0) (mc := 0) (ms := 0) (N := mX12_bodyFrom) dX12_voiced_12 lv_X12_305 mo_X12_bodyFrom hR.cn (Nat.le_of_ble_eq_true rfl) (Nat.le_of_ble_eq_true rfl) (by decide) (s_bf13 D hsp hkd ⟨τ, hR, hF, h6, h40, h7, hE⟩ (by decide) x) (fun h hP => ?_)
  obtain ⟨τ, hR, hF, h6, h40, h7, hE⟩ := hP
  exact e_iret dX12_voiced_15 rfl (hp _ ⟨τ, hR, hF, h6, h40, h7, hE⟩)
set_option maxRecDepth 20000 in
theorem s_vc3_2 (D : En) {h0 h : AH} {N : Nat → Int32} {σ0 : Nat → Nat → Int32} {τ0 : Nat → Int32} {sp : Nat} {t : TS} (hsp : sp < 10) (hkd : N (112 + 7 * sp + 0) = nI 2) (hA : TA h0 h N σ0 τ0 sp t) (x : Int32) : Sp D 21 mX12_voiced [.ref 82, .int (nI 3), .int x] h 0 0 (some (.int (tlF 2 2 (nI sp) (N (112 + 7 * sp + 3)) (x) (t)).1)) (fun h' => TA h0 h' N σ0 τ0 sp (tlF 2 2 (nI sp) (N (112 + 7 * sp + 3)) (x) (t)).2) := by
  obtain ⟨τ, hR, hF, h6, h40, h7, hE⟩ := hA
  intro post hp
  show Ev D 21 mX12_voiced 0 [some (.ref (82)), some (.int (nI (3))), some (.int (x))] [] h 0 0 post
  refine e_aload_n dX12_voiced_0 rfl ?_
  refine e_aload_n dX12_voiced_1 rfl ?_
  refine e_aload_n dX12_voiced_2 rfl ?_
  refine e_get dX12_voiced_3 fl_X12_302_12 hR.1 rfl ?_
  refine e_top (nI (sp)) (h7) ?_
  refine e_iconst (nI (0)) dX12_voiced_6 (by decide) ?_
  refine c_V2iR (N := mX12_thing) dX12_voiced_7 lv_X12_136 mo_X12_thing hR.cn (Nat.le_of_ble_eq_true rfl) (Nat.le_of_ble_eq_true rfl) (by decide) (s_thing D hR (sp) (0) (by omega) (by omega)) ?_
  refine e_top (nI (2)) (hkd) ?_
  refine e_iload_n dX12_voiced_10 rfl ?_
  refine e_iload_n dX12_voiced_11 rfl ?_
  refine c_V3i (nc := 0) (ns := 0) (mc := 0) (ms := 0) (N := mX12_bodyFrom) dX12_voiced_12 lv_X12_305 mo_X12_bodyFrom hR.cn (Nat.le_of_ble_eq_true rfl) (Nat.le_of_ble_eq_true rfl) (by decide) (s_bf23 D hsp hkd ⟨τ, hR, hF, h6, h40, h7, hE⟩ (by decide) x) (fun h hP => ?_)
  obtain ⟨τ, hR, hF, h6, h40, h7, hE⟩ := hP
  exact e_iret dX12_voiced_15 rfl (hp _ ⟨τ, hR, hF, h6, h40, h7, hE⟩)
set_option maxRecDepth 20000 in
theorem s_vc3_3 (D : En) {h0 h : AH} {N : Nat → Int32} {σ0 : Nat → Nat → Int32} {τ0 : Nat → Int32} {sp : Nat} {t : TS} (hsp : sp < 10) (hkd : N (112 + 7 * sp + 0) = nI 3) (hA : TA h0 h N σ0 τ0 sp t) (x : Int32) : Sp D 21 mX12_voiced [.ref 82, .int (nI 3), .int x] h 0 0 (some (.int (tlF 3 3 (nI sp) (N (112 + 7 * sp + 3)) (x) (t)).1)) (fun h' => TA h0 h' N σ0 τ0 sp (tlF 3 3 (nI sp) (N (112 + 7 * sp + 3)) (x) (t)).2) := by
  obtain ⟨τ, hR, hF, h6, h40, h7, hE⟩ := hA
  intro post hp
  show Ev D 21 mX12_voiced 0 [some (.ref (82)), some (.int (nI (3))), some (.int (x))] [] h 0 0 post
  refine e_aload_n dX12_voiced_0 rfl ?_
  refine e_aload_n dX12_voiced_1 rfl ?_
  refine e_aload_n dX12_voiced_2 rfl ?_
  refine e_get dX12_voiced_3 fl_X12_302_12 hR.1 rfl ?_
  refine e_top (nI (sp)) (h7) ?_
  refine e_iconst (nI (0)) dX12_voiced_6 (by decide) ?_
  refine c_V2iR (N := mX12_thing) dX12_voiced_7 lv_X12_136 mo_X12_thing hR.cn (Nat.le_of_ble_eq_true rfl) (Nat.le_of_ble_eq_true rfl) (by decide) (s_thing D hR (sp) (0) (by omega) (by omega)) ?_
  refine e_top (nI (3)) (hkd) ?_
  refine e_iload_n dX12_voiced_10 rfl ?_
  refine e_iload_n dX12_voiced_11 rfl ?_
  refine c_V3i (nc := 0) (ns := 0) (mc := 0) (ms := 0) (N := mX12_bodyFrom) dX12_voiced_12 lv_X12_305 mo_X12_bodyFrom hR.cn (Nat.le_of_ble_eq_true rfl) (Nat.le_of_ble_eq_true rfl) (by decide) (s_bf33 D hsp hkd ⟨τ, hR, hF, h6, h40, h7, hE⟩ (by decide) x) (fun h hP => ?_)
  obtain ⟨τ, hR, hF, h6, h40, h7, hE⟩ := hP
  exact e_iret dX12_voiced_15 rfl (hp _ ⟨τ, hR, hF, h6, h40, h7, hE⟩)
set_option maxRecDepth 20000 in
theorem s_vc3_4 (D : En) {h0 h : AH} {N : Nat → Int32} {σ0 : Nat → Nat → Int32} {τ0 : Nat → Int32} {sp : Nat} {t : TS} (hsp : sp < 10) (hkd : N (112 + 7 * sp + 0) = nI 4) (hA : TA h0 h N σ0 τ0 sp t) (x : Int32) : Sp D 21 mX12_voiced [.ref 82, .int (nI 3), .int x] h 0 0 (some (.int (tlF 4 4 (nI sp) (N (112 + 7 * sp + 3)) (x) (t)).1)) (fun h' => TA h0 h' N σ0 τ0 sp (tlF 4 4 (nI sp) (N (112 + 7 * sp + 3)) (x) (t)).2) := by
  obtain ⟨τ, hR, hF, h6, h40, h7, hE⟩ := hA
  intro post hp
  show Ev D 21 mX12_voiced 0 [some (.ref (82)), some (.int (nI (3))), some (.int (x))] [] h 0 0 post
  refine e_aload_n dX12_voiced_0 rfl ?_
  refine e_aload_n dX12_voiced_1 rfl ?_
  refine e_aload_n dX12_voiced_2 rfl ?_
  refine e_get dX12_voiced_3 fl_X12_302_12 hR.1 rfl ?_
  refine e_top (nI (sp)) (h7) ?_
  refine e_iconst (nI (0)) dX12_voiced_6 (by decide) ?_
  refine c_V2iR (N := mX12_thing) dX12_voiced_7 lv_X12_136 mo_X12_thing hR.cn (Nat.le_of_ble_eq_true rfl) (Nat.le_of_ble_eq_true rfl) (by decide) (s_thing D hR (sp) (0) (by omega) (by omega)) ?_
  refine e_top (nI (4)) (hkd) ?_
  refine e_iload_n dX12_voiced_10 rfl ?_
  refine e_iload_n dX12_voiced_11 rfl ?_
  refine c_V3i (nc := 0) (ns := 0) (mc := 0) (ms := 0) (N := mX12_bodyFrom) dX12_voiced_12 lv_X12_305 mo_X12_bodyFrom hR.cn (Nat.le_of_ble_eq_true rfl) (Nat.le_of_ble_eq_true rfl) (by decide) (s_bf43 D hsp hkd ⟨τ, hR, hF, h6, h40, h7, hE⟩ (by decide) x) (fun h hP => ?_)
  obtain ⟨τ, hR, hF, h6, h40, h7, hE⟩ := hP
  exact e_iret dX12_voiced_15 rfl (hp _ ⟨τ, hR, hF, h6, h40, h7, hE⟩)
set_option maxRecDepth 20000 in
theorem s_vc3_5 (D : En) {h0 h : AH} {N : Nat → Int32} {σ0 : Nat → Nat → Int32} {τ0 : Nat → Int32} {sp : Nat} {t : TS} (hsp : sp < 10) (hkd : N (112 + 7 * sp + 0) = nI 5) (hA : TA h0 h N σ0 τ0 sp t) (x : Int32) : Sp D 21 mX12_voiced [.ref 82, .int (nI 3), .int x] h 0 0 (some (.int (tlF 5 5 (nI sp) (N (112 + 7 * sp + 3)) (x) (t)).1)) (fun h' => TA h0 h' N σ0 τ0 sp (tlF 5 5 (nI sp) (N (112 + 7 * sp + 3)) (x) (t)).2) := by
  obtain ⟨τ, hR, hF, h6, h40, h7, hE⟩ := hA
  intro post hp
  show Ev D 21 mX12_voiced 0 [some (.ref (82)), some (.int (nI (3))), some (.int (x))] [] h 0 0 post
  refine e_aload_n dX12_voiced_0 rfl ?_
  refine e_aload_n dX12_voiced_1 rfl ?_
  refine e_aload_n dX12_voiced_2 rfl ?_
  refine e_get dX12_voiced_3 fl_X12_302_12 hR.1 rfl ?_
  refine e_top (nI (sp)) (h7) ?_
  refine e_iconst (nI (0)) dX12_voiced_6 (by decide) ?_
  refine c_V2iR (N := mX12_thing) dX12_voiced_7 lv_X12_136 mo_X12_thing hR.cn (Nat.le_of_ble_eq_true rfl) (Nat.le_of_ble_eq_true rfl) (by decide) (s_thing D hR (sp) (0) (by omega) (by omega)) ?_
  refine e_top (nI (5)) (hkd) ?_
  refine e_iload_n dX12_voiced_10 rfl ?_
  refine e_iload_n dX12_voiced_11 rfl ?_
  refine c_V3i (nc := 0) (ns := 0) (mc := 0) (ms := 0) (N := mX12_bodyFrom) dX12_voiced_12 lv_X12_305 mo_X12_bodyFrom hR.cn (Nat.le_of_ble_eq_true rfl) (Nat.le_of_ble_eq_true rfl) (by decide) (s_bf53 D hsp hkd ⟨τ, hR, hF, h6, h40, h7, hE⟩ (by decide) x) (fun h hP => ?_)
  obtain ⟨τ, hR, hF, h6, h40, h7, hE⟩ := hP
  exact e_iret dX12_voiced_15 rfl (hp _ ⟨τ, hR, hF, h6, h40, h7, hE⟩)
set_option maxRecDepth 20000 in
theorem s_vc3_6 (D : En) {h0 h : AH} {N : Nat → Int32} {σ0 : Nat → Nat → Int32} {τ0 : Nat → Int32} {sp : Nat} {t : TS} (hsp : sp < 10) (hkd : N (112 + 7 * sp + 0) = nI 6) (hA : TA h0 h N σ0 τ0 sp t) (x : Int32) : Sp D 21 mX12_voiced [.ref 82, .int (nI 3), .int x] h 0 0 (some (.int (tlF 6 6 (nI sp) (N (112 + 7 * sp + 3)) (x) (t)).1)) (fun h' => TA h0 h' N σ0 τ0 sp (tlF 6 6 (nI sp) (N (112 + 7 * sp + 3)) (x) (t)).2) := by
  obtain ⟨τ, hR, hF, h6, h40, h7, hE⟩ := hA
  intro post hp
  show Ev D 21 mX12_voiced 0 [some (.ref (82)), some (.int (nI (3))), some (.int (x))] [] h 0 0 post
  refine e_aload_n dX12_voiced_0 rfl ?_
  refine e_aload_n dX12_voiced_1 rfl ?_
  refine e_aload_n dX12_voiced_2 rfl ?_
  refine e_get dX12_voiced_3 fl_X12_302_12 hR.1 rfl ?_
  refine e_top (nI (sp)) (h7) ?_
  refine e_iconst (nI (0)) dX12_voiced_6 (by decide) ?_
  refine c_V2iR (N := mX12_thing) dX12_voiced_7 lv_X12_136 mo_X12_thing hR.cn (Nat.le_of_ble_eq_true rfl) (Nat.le_of_ble_eq_true rfl) (by decide) (s_thing D hR (sp) (0) (by omega) (by omega)) ?_
  refine e_top (nI (6)) (hkd) ?_
  refine e_iload_n dX12_voiced_10 rfl ?_
  refine e_iload_n dX12_voiced_11 rfl ?_
  refine c_V3i (nc := 0) (ns := 0) (mc := 0) (ms := 0) (N := mX12_bodyFrom) dX12_voiced_12 lv_X12_305 mo_X12_bodyFrom hR.cn (Nat.le_of_ble_eq_true rfl) (Nat.le_of_ble_eq_true rfl) (by decide) (s_bf63 D hsp hkd ⟨τ, hR, hF, h6, h40, h7, hE⟩ (by decide) x) (fun h hP => ?_)
  obtain ⟨τ, hR, hF, h6, h40, h7, hE⟩ := hP
  exact e_iret dX12_voiced_15 rfl (hp _ ⟨τ, hR, hF, h6, h40, h7, hE⟩)
theorem s_vc3 (D : En) {h0 h : AH} {N : Nat → Int32} {σ0 : Nat → Nat → Int32} {τ0 : Nat → Int32} {sp K : Nat} {t : TS} (hsp : sp < 10) (hkd : N (112 + 7 * sp + 0) = nI K) (hA : TA h0 h N σ0 τ0 sp t) (hK7 : K < 7) (x : Int32) : Sp D 21 mX12_voiced [.ref 82, .int (nI 3), .int x] h 0 0 (some (.int (tlF K K (nI sp) (N (112 + 7 * sp + 3)) (x) (t)).1)) (fun h' => TA h0 h' N σ0 τ0 sp (tlF K K (nI sp) (N (112 + 7 * sp + 3)) (x) (t)).2) := by
  rcases (show K = 0 ∨ K = 1 ∨ K = 2 ∨ K = 3 ∨ K = 4 ∨ K = 5 ∨ K = 6 by omega) with rfl | rfl | rfl | rfl | rfl | rfl | rfl
  · exact s_vc3_0 D hsp hkd hA x
  · exact s_vc3_1 D hsp hkd hA x
  · exact s_vc3_2 D hsp hkd hA x
  · exact s_vc3_3 D hsp hkd hA x
  · exact s_vc3_4 D hsp hkd hA x
  · exact s_vc3_5 D hsp hkd hA x
  · exact s_vc3_6 D hsp hkd hA x
theorem s_voiced (D : En) {h0 h : AH} {N : Nat → Int32} {σ0 : Nat → Nat → Int32} {τ0 : Nat → Int32} {sp K : Nat} {t : TS} (hsp : sp < 10) (hkd : N (112 + 7 * sp + 0) = nI K) (hA : TA h0 h N σ0 τ0 sp t) (hK7 : K < 7) (act : Nat) (ha : act < 4) (x : Int32) : Sp D 21 mX12_voiced [.ref 82, .int (nI act), .int x] h 0 0 (some (.int (vcF act K K (nI sp) (N (112 + 7 * sp + 3)) x t).1)) (fun h' => TA h0 h' N σ0 τ0 sp (vcF act K K (nI sp) (N (112 + 7 * sp + 3)) x t).2) := by
  rcases (show act = 0 ∨ act = 1 ∨ act = 2 ∨ act = 3 by omega) with rfl | rfl | rfl | rfl
  · exact (s_vc0 D hsp hkd hA x hK7).up (by decide)
  · exact (s_vc1 D hsp hkd hA hK7 x).up (by decide)
  · exact (s_vc2 D hsp hkd hA x hK7).up (by decide)
  · exact s_vc3 D hsp hkd hA hK7 x
