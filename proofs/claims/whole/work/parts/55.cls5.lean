/-! only Rules' piles have changed -/
def PR (h h' : AH) : Prop := h'.length = h.length ∧ ∀ x, h'[x]? = h[x]? ∨ (SK h x ∧ ∃ k, Row0 h' x 50 k)
theorem PR.rf {h : AH} : PR h h := ⟨rfl, fun _ => Or.inl rfl⟩
theorem SK.hi {h : AH} (hB : RB h) {x : Nat} (hx : SK h x) : 104 ≤ x ∧ ∃ k, Row0 h x 50 k := by
  obtain ⟨h3, fs, hs⟩ := hx
  obtain ⟨g0, -, -, ⟨k, hk⟩⟩ := hB _ fs hs
  rw [show x - 3 + 3 = x by omega] at hk
  exact ⟨by omega, k, hk⟩
theorem PR.obj {h h' : AH} (hP : PR h h') (hB : RB h) {x : Nat} {q : Nat × List Value} (hx : h[x]? = some (.inr q)) : h'[x]? = some (.inr q) := by
  rcases hP.2 x with e | ⟨e, -⟩
  · rw [e]; exact hx
  · obtain ⟨-, k, hk⟩ := e.hi hB
    rw [Row0, hx] at hk
    cases hk
theorem PR.lo {h h' : AH} (hP : PR h h') (hB : RB h) {x : Nat} (hx : x < 104) : h'[x]? = h[x]? := by
  rcases hP.2 x with e | ⟨e, -⟩
  · exact e
  · have := (e.hi hB).1; omega
theorem PR.objR {h h' : AH} (hP : PR h h') {x : Nat} {q : Nat × List Value} (hx : h'[x]? = some (.inr q)) : h[x]? = some (.inr q) := by
  rcases hP.2 x with e | ⟨-, k, hk⟩
  · rw [← e]; exact hx
  · rw [Row0, hx] at hk; cases hk
theorem PR.r2 {h h' : AH} (hP : PR h h') (hB : RB h) {r : Nat} {fs : List Value} (hr : h[r]? = some (.inr (6, fs))) : h'[r + 2]? = h[r + 2]? := by
  rcases hP.2 (r + 2) with e | ⟨⟨h3, gs, hs⟩, -⟩
  · exact e
  · obtain ⟨-, ⟨ks, hk⟩, -, -⟩ := hB _ gs hs
    have h0 := (hB _ fs hr).1
    rw [show r + 2 - 3 + 1 = r by omega, hr] at hk
    exact absurd (show (6 : Nat) = 5 from congrArg Prod.fst (Sum.inr.inj (Option.some.inj hk))) (by decide)
theorem PR.r3 {h h' : AH} (hP : PR h h') {r k : Nat} (hr : ∃ f, Row0 h r 50 f) : ∃ f, Row0 h' r 50 f := by
  rcases hP.2 r with e | ⟨-, e⟩
  · obtain ⟨f, hf⟩ := hr
    exact ⟨f, by rw [Row0, e]; exact hf⟩
  · exact e
theorem PR.rb {h h' : AH} (hP : PR h h') (hB : RB h) : RB h' := by
  intro r fs hr
  have h1 := hP.objR hr
  obtain ⟨g0, ⟨gs, g1⟩, ⟨c, g2⟩, g3⟩ := hB r fs h1
  exact ⟨g0, ⟨gs, hP.obj hB g1⟩, ⟨c, by rw [Row0, hP.r2 hB h1]; exact g2⟩, hP.r3 (k := 0) g3⟩
theorem PR.trans {h h1 h2 : AH} (a : PR h h1) (b : PR h1 h2) : PR h h2 := by
  refine ⟨b.1.trans a.1, fun x => ?_⟩
  rcases b.2 x with e | ⟨⟨e3, fs, es⟩, e⟩
  · rcases a.2 x with q | ⟨q, k, hk⟩
    · exact Or.inl (e.trans q)
    · exact Or.inr ⟨q, k, by rw [Row0, e]; exact hk⟩
  · exact Or.inr ⟨⟨e3, fs, a.objR es⟩, e⟩
theorem RuleAt.pr {h h' : AH} {r u : Nat} {tx : List Nat} (hr : RuleAt h r u tx) (hP : PR h h') (hB : RB h) : RuleAt h' r u tx := by
  obtain ⟨h0, ⟨p, f, h1⟩, ⟨b, h2⟩, ⟨e, h3, h3'⟩, h4⟩ := hr
  exact ⟨h0, ⟨p, f, hP.obj hB h1⟩, ⟨b, hP.obj hB h2⟩, ⟨e, by rw [Row0, hP.r2 hB h1]; exact h3, h3'⟩, hP.r3 (k := 0) h4⟩
theorem LandAt.pr_ {h h' : AH} {a : Nat} {N : Nat → Int32} (hL : LandAt h a N) (hP : PR h h') (hB : RB h) (ha : a + 11 < 101) : LandAt h' a N := by
  obtain ⟨h0, ⟨f1, hr1, he1⟩, ⟨f2, hr2, he2⟩, ⟨f3, hr3, he3⟩, ⟨T4, hr4, he4⟩, ⟨f5, hr5, he5⟩, ⟨f6, hr6, he6⟩, ⟨f7, hr7, he7⟩, ⟨R8, hr8, he8⟩, ⟨f9, hr9⟩, ⟨f10, hr10⟩, ⟨fG, hrG, heG⟩⟩ := hL
  have lo : ∀ j, j < 12 → h'[a + j]? = h[a + j]? := fun j hj => hP.lo hB (by omega)
  refine ⟨(lo 0 (by decide)).trans h0, ⟨f1, (lo 1 (by decide)).trans hr1, he1⟩, ⟨f2, (lo 2 (by decide)).trans hr2, he2⟩, ⟨f3, (lo 3 (by decide)).trans hr3, he3⟩, ⟨T4, (lo 4 (by decide)).trans hr4, fun t ht => ?_⟩, ⟨f5, (lo 5 (by decide)).trans hr5, he5⟩, ⟨f6, (lo 6 (by decide)).trans hr6, he6⟩, ⟨f7, (lo 8 (by decide)).trans hr7, he7⟩, ⟨R8, (lo 9 (by decide)).trans hr8, fun u hu => ?_⟩, ⟨f9, (lo 10 (by decide)).trans hr9⟩, ⟨f10, (lo 11 (by decide)).trans hr10⟩, ⟨fG, (lo 7 (by decide)).trans hrG, heG⟩⟩
  · obtain ⟨b, e1, e2⟩ := he4 t ht
    exact ⟨b, e1, e2.1, hP.obj hB e2.2⟩
  · rcases he8 u hu with z | ⟨z, r, e1, e2⟩
    · exact Or.inl z
    · exact Or.inr ⟨z, r, e1, e2.pr hP hB⟩
theorem PR.pile {h : AH} {r : Nat} {fs : List Value} (hr : h[r]? = some (.inr (6, fs))) {f : Nat → Int32} (hf : Row0 h (r + 3) 50 f) (k : Nat → Int32) : PR h (h.set (r + 3) (.inl (0, 50, .inl k))) := by
  refine ⟨List.length_set, fun x => ?_⟩
  by_cases e : x = r + 3
  · subst e
    exact Or.inr ⟨⟨by omega, fs, hr⟩, k, getself hf⟩
  · exact Or.inl (List.getElem?_set_ne (fun z => e z.symm))
theorem set_self {h : AH} {a : Nat} {c : AC} (hc : h[a]? = some c) : h.set a c = h := by
  apply List.ext_getElem?
  intro i
  by_cases e : a = i
  · subst e; rw [getself hc, hc]
  · rw [List.getElem?_set_ne e]
set_option maxRecDepth 20000 in
theorem k_named (D : En) {h : AH} (q : Nat) (hq : 10000 ≤ q ∧ q < 20000) (a b c e : Int32) : Sp D 0 mX6_named [.int (nI (q - 10000)), .int a, .int b, .int c, .int e] h 0 0 (some (.int (pushV a b c e q))) (fun h' => h' = h) := by
  intro post hp
  show Ev D 0 mX6_named 0 [some (.int (nI (q - 10000))), some (.int (a)), some (.int (b)), some (.int (c)), some (.int (e))] [] h 0 0 post
  refine e_iload_n dX6_named_0 rfl ?_
  have hsp : q = 10000 ∨ q = 10001 ∨ q = 10002 ∨ 10002 < q := by omega
  rcases hsp with rfl | rfl | rfl | hsp
  · refine e_tableIn (off := 27) 28 dX6_named_1 (by decide) (by decide) (by decide) (by decide) ?_
    refine e_iload_n dX6_named_28 rfl ?_
    exact e_iret dX6_named_29 rfl (hp _ rfl)
  · refine e_tableIn (off := 29) 30 dX6_named_1 (by decide) (by decide) (by decide) (by decide) ?_
    refine e_iload_n dX6_named_30 rfl ?_
    exact e_iret dX6_named_31 rfl (hp _ rfl)
  · refine e_tableIn (off := 31) 32 dX6_named_1 (by decide) (by decide) (by decide) (by decide) ?_
    refine e_iload_n dX6_named_32 rfl ?_
    exact e_iret dX6_named_33 rfl (hp _ rfl)
  · refine e_tableOut 34 dX6_named_1 (Or.inr (by rw [nI_toInt (by omega)]; omega)) (by decide) ?_
    refine e_iload dX6_named_34 rfl ?_
    exact e_iret dX6_named_36 rfl (by have e9 := hp _ rfl; unfold pushV at e9; rw [if_neg (by omega), if_neg (by omega), if_neg (by omega), if_neg (by omega)] at e9; exact e9)
set_option maxRecDepth 20000 in
theorem k_join20000 (D : En) {h : AH} (x y : Int32) : Sp D 0 mX6_joined [.int (nI 124), .int x, .int y] h 0 0 (some (.int (doneR 20000 x y))) (fun h' => h' = h) := by
  intro post hp
  show Ev D 0 mX6_joined 0 [some (.int (nI (124))), some (.int (x)), some (.int (y))] [] h 0 0 post
  refine e_iload_n dX6_joined_0 rfl ?_
  refine e_lookup (off := 83) 84 dX6_joined_1 (by decide) (by decide) (by decide) ?_
  refine e_iload_n dX6_joined_84 rfl ?_
  have K1 : Ev D 0 mX6_joined 97 [some (.int (nI (124))), some (.int (x)), some (.int (y))] [.int (b2 (¬ x = 0 ∨ ¬ y = 0))] h 0 0 post := by
    exact e_iret dX6_joined_97 rfl (hp _ rfl)
  refine e_if_ne 92 dX6_joined_85 (by decide) (fun hcq85 => ?_) (fun hcq85 => ?_)
  · refine e_iconst (nI (1)) dX6_joined_92 (by decide) ?_
    refine e_goto 97 dX6_joined_93 (by decide) ?_
    exact e_top (b2 (¬ x = 0 ∨ ¬ y = 0)) (by first | exact (b2_t (Or.inl hcq85)).symm | exact (b2_t (Or.inr hcq89)).symm | exact (b2_f (fun q => q.elim (fun z => z hcq85) (fun z => z hcq89))).symm) K1
  · refine e_iload_n dX6_joined_88 rfl ?_
    refine e_if_eq 96 dX6_joined_89 (by decide) (fun hcq89 => ?_) (fun hcq89 => ?_)
    · refine e_iconst (nI (0)) dX6_joined_96 (by decide) ?_
      exact e_top (b2 (¬ x = 0 ∨ ¬ y = 0)) (by first | exact (b2_t (Or.inl hcq85)).symm | exact (b2_t (Or.inr hcq89)).symm | exact (b2_f (fun q => q.elim (fun z => z hcq85) (fun z => z hcq89))).symm) K1
    · refine e_iconst (nI (1)) dX6_joined_92 (by decide) ?_
      refine e_goto 97 dX6_joined_93 (by decide) ?_
      exact e_top (b2 (¬ x = 0 ∨ ¬ y = 0)) (by first | exact (b2_t (Or.inl hcq85)).symm | exact (b2_t (Or.inr hcq89)).symm | exact (b2_f (fun q => q.elim (fun z => z hcq85) (fun z => z hcq89))).symm) K1
set_option maxRecDepth 20000 in
theorem k_join20001 (D : En) {h : AH} (x y : Int32) : Sp D 0 mX6_joined [.int (nI 38), .int x, .int y] h 0 0 (some (.int (doneR 20001 x y))) (fun h' => h' = h) := by
  intro post hp
  show Ev D 0 mX6_joined 0 [some (.int (nI (38))), some (.int (x)), some (.int (y))] [] h 0 0 post
  refine e_iload_n dX6_joined_0 rfl ?_
  refine e_lookup (off := 97) 98 dX6_joined_1 (by decide) (by decide) (by decide) ?_
  refine e_iload_n dX6_joined_98 rfl ?_
  have K1 : Ev D 0 mX6_joined 111 [some (.int (nI (38))), some (.int (x)), some (.int (y))] [.int (b2 (¬ x = 0 ∧ ¬ y = 0))] h 0 0 post := by
    exact e_iret dX6_joined_111 rfl (hp _ rfl)
  refine e_if_eq 110 dX6_joined_99 (by decide) (fun hcq99 => ?_) (fun hcq99 => ?_)
  · refine e_iconst (nI (0)) dX6_joined_110 (by decide) ?_
    exact e_top (b2 (¬ x = 0 ∧ ¬ y = 0)) (by first | exact (b2_t (And.intro hcq99 hcq103)).symm | (refine (b2_f ?_).symm; intro z9; first | exact z9.1 hcq99 | exact z9.2 hcq103)) K1
  · refine e_iload_n dX6_joined_102 rfl ?_
    refine e_if_eq 110 dX6_joined_103 (by decide) (fun hcq103 => ?_) (fun hcq103 => ?_)
    · refine e_iconst (nI (0)) dX6_joined_110 (by decide) ?_
      exact e_top (b2 (¬ x = 0 ∧ ¬ y = 0)) (by first | exact (b2_t (And.intro hcq99 hcq103)).symm | (refine (b2_f ?_).symm; intro z9; first | exact z9.1 hcq99 | exact z9.2 hcq103)) K1
    · refine e_iconst (nI (1)) dX6_joined_106 (by decide) ?_
      refine e_goto 111 dX6_joined_107 (by decide) ?_
      exact e_top (b2 (¬ x = 0 ∧ ¬ y = 0)) (by first | exact (b2_t (And.intro hcq99 hcq103)).symm | (refine (b2_f ?_).symm; intro z9; first | exact z9.1 hcq99 | exact z9.2 hcq103)) K1
set_option maxRecDepth 20000 in
theorem k_join20002 (D : En) {h : AH} (x y : Int32) : Sp D 0 mX6_joined [.int (nI 60), .int x, .int y] h 0 0 (some (.int (doneR 20002 x y))) (fun h' => h' = h) := by
  intro post hp
  show Ev D 0 mX6_joined 0 [some (.int (nI (60))), some (.int (x)), some (.int (y))] [] h 0 0 post
  refine e_iload_n dX6_joined_0 rfl ?_
  refine e_lookup (off := 111) 112 dX6_joined_1 (by decide) (by decide) (by decide) ?_
  refine e_iload_n dX6_joined_112 rfl ?_
  refine e_iload_n dX6_joined_113 rfl ?_
  have K1 : Ev D 0 mX6_joined 122 [some (.int (nI (60))), some (.int (x)), some (.int (y))] [.int (b2 (x < y))] h 0 0 post := by
    exact e_iret dX6_joined_122 rfl (hp _ rfl)
  refine e_icmp_ge 121 dX6_joined_114 (by decide) (fun hcq114 => ?_) (fun hcq114 => ?_)
  · refine e_iconst (nI (0)) dX6_joined_121 (by decide) ?_
    exact e_top (b2 (x < y)) (by first | exact (b2_t (Int32.not_le.mp hcq114)).symm | exact (b2_f (Int32.not_lt.mpr hcq114)).symm) K1
  · refine e_iconst (nI (1)) dX6_joined_117 (by decide) ?_
    refine e_goto 122 dX6_joined_118 (by decide) ?_
    exact e_top (b2 (x < y)) (by first | exact (b2_t (Int32.not_le.mp hcq114)).symm | exact (b2_f (Int32.not_lt.mpr hcq114)).symm) K1
set_option maxRecDepth 20000 in
theorem k_join20003 (D : En) {h : AH} (x y : Int32) : Sp D 0 mX6_joined [.int (nI 61), .int x, .int y] h 0 0 (some (.int (doneR 20003 x y))) (fun h' => h' = h) := by
  intro post hp
  show Ev D 0 mX6_joined 0 [some (.int (nI (61))), some (.int (x)), some (.int (y))] [] h 0 0 post
  refine e_iload_n dX6_joined_0 rfl ?_
  refine e_lookup (off := 122) 123 dX6_joined_1 (by decide) (by decide) (by decide) ?_
  refine e_iload_n dX6_joined_123 rfl ?_
  refine e_iload_n dX6_joined_124 rfl ?_
  have K1 : Ev D 0 mX6_joined 133 [some (.int (nI (61))), some (.int (x)), some (.int (y))] [.int (b2 (x = y))] h 0 0 post := by
    exact e_iret dX6_joined_133 rfl (hp _ rfl)
  refine e_icmp_ne 132 dX6_joined_125 (by decide) (fun hcq125 => ?_) (fun hcq125 => ?_)
  · refine e_iconst (nI (0)) dX6_joined_132 (by decide) ?_
    exact e_top (b2 (x = y)) (by first | exact (if_pos (by assumption)).symm | exact (if_neg (by assumption)).symm | exact (b2_t (by assumption)).symm | exact (b2_f (by assumption)).symm | simp_all [b2]) K1
  · refine e_iconst (nI (1)) dX6_joined_128 (by decide) ?_
    refine e_goto 133 dX6_joined_129 (by decide) ?_
    exact e_top (b2 (x = y)) (by first | exact (if_pos (by assumption)).symm | exact (if_neg (by assumption)).symm | exact (b2_t (by assumption)).symm | exact (b2_f (by assumption)).symm | simp_all [b2]) K1
set_option maxRecDepth 20000 in
theorem k_join20004 (D : En) {h : AH} (x y : Int32) : Sp D 0 mX6_joined [.int (nI 62), .int x, .int y] h 0 0 (some (.int (doneR 20004 x y))) (fun h' => h' = h) := by
  intro post hp
  show Ev D 0 mX6_joined 0 [some (.int (nI (62))), some (.int (x)), some (.int (y))] [] h 0 0 post
  refine e_iload_n dX6_joined_0 rfl ?_
  refine e_lookup (off := 133) 134 dX6_joined_1 (by decide) (by decide) (by decide) ?_
  refine e_iload_n dX6_joined_134 rfl ?_
  refine e_iload_n dX6_joined_135 rfl ?_
  have K1 : Ev D 0 mX6_joined 144 [some (.int (nI (62))), some (.int (x)), some (.int (y))] [.int (b2 (y < x))] h 0 0 post := by
    exact e_iret dX6_joined_144 rfl (hp _ rfl)
  refine e_icmp_le 143 dX6_joined_136 (by decide) (fun hcq136 => ?_) (fun hcq136 => ?_)
  · refine e_iconst (nI (0)) dX6_joined_143 (by decide) ?_
    exact e_top (b2 (y < x)) (by first | exact (b2_t (Int32.not_le.mp hcq136)).symm | exact (b2_f (Int32.not_lt.mpr hcq136)).symm) K1
  · refine e_iconst (nI (1)) dX6_joined_139 (by decide) ?_
    refine e_goto 144 dX6_joined_140 (by decide) ?_
    exact e_top (b2 (y < x)) (by first | exact (b2_t (Int32.not_le.mp hcq136)).symm | exact (b2_f (Int32.not_lt.mpr hcq136)).symm) K1
set_option maxRecDepth 20000 in
theorem k_join20005 (D : En) {h : AH} (x y : Int32) : Sp D 0 mX6_joined [.int (nI 43), .int x, .int y] h 0 0 (some (.int (doneR 20005 x y))) (fun h' => h' = h) := by
  intro post hp
  show Ev D 0 mX6_joined 0 [some (.int (nI (43))), some (.int (x)), some (.int (y))] [] h 0 0 post
  refine e_iload_n dX6_joined_0 rfl ?_
  refine e_lookup (off := 144) 145 dX6_joined_1 (by decide) (by decide) (by decide) ?_
  refine e_iload_n dX6_joined_145 rfl ?_
  refine e_iload_n dX6_joined_146 rfl ?_
  refine e_iadd dX6_joined_147 ?_
  exact e_iret dX6_joined_148 rfl (hp _ rfl)
set_option maxRecDepth 20000 in
theorem k_join20006 (D : En) {h : AH} (x y : Int32) : Sp D 0 mX6_joined [.int (nI 45), .int x, .int y] h 0 0 (some (.int (doneR 20006 x y))) (fun h' => h' = h) := by
  intro post hp
  show Ev D 0 mX6_joined 0 [some (.int (nI (45))), some (.int (x)), some (.int (y))] [] h 0 0 post
  refine e_iload_n dX6_joined_0 rfl ?_
  refine e_lookup (off := 148) 149 dX6_joined_1 (by decide) (by decide) (by decide) ?_
  refine e_iload_n dX6_joined_149 rfl ?_
  refine e_iload_n dX6_joined_150 rfl ?_
  refine e_isub dX6_joined_151 ?_
  exact e_iret dX6_joined_152 rfl (hp _ rfl)
set_option maxRecDepth 20000 in
theorem k_join20007 (D : En) {h : AH} (x y : Int32) : Sp D 0 mX6_joined [.int (nI 42), .int x, .int y] h 0 0 (some (.int (doneR 20007 x y))) (fun h' => h' = h) := by
  intro post hp
  show Ev D 0 mX6_joined 0 [some (.int (nI (42))), some (.int (x)), some (.int (y))] [] h 0 0 post
  refine e_iload_n dX6_joined_0 rfl ?_
  refine e_lookup (off := 152) 153 dX6_joined_1 (by decide) (by decide) (by decide) ?_
  refine e_iload_n dX6_joined_153 rfl ?_
  refine e_iload_n dX6_joined_154 rfl ?_
  refine e_imul dX6_joined_155 ?_
  exact e_iret dX6_joined_156 rfl (hp _ rfl)
set_option maxRecDepth 20000 in
theorem k_join20008 (D : En) {h : AH} (x y : Int32) : Sp D 0 mX6_joined [.int (nI 47), .int x, .int y] h 0 0 (some (.int (doneR 20008 x y))) (fun h' => h' = h) := by
  intro post hp
  show Ev D 0 mX6_joined 0 [some (.int (nI (47))), some (.int (x)), some (.int (y))] [] h 0 0 post
  refine e_iload_n dX6_joined_0 rfl ?_
  refine e_lookup (off := 156) 157 dX6_joined_1 (by decide) (by decide) (by decide) ?_
  refine e_iload_n dX6_joined_157 rfl ?_
  have K1 : Ev D 0 mX6_joined 168 [some (.int (nI (47))), some (.int (x)), some (.int (y))] [.int (if y = 0 then nI 0 else x / y)] h 0 0 post := by
    exact e_iret dX6_joined_168 rfl (hp _ rfl)
  refine e_if_ne 165 dX6_joined_158 (by decide) (fun hcq158 => ?_) (fun hcq158 => ?_)
  · refine e_iload_n dX6_joined_165 rfl ?_
    refine e_iload_n dX6_joined_166 rfl ?_
    refine e_idiv dX6_joined_167 hcq158 ?_
    exact e_top ((if y = 0 then nI 0 else x / y)) (by first | exact (if_pos (by assumption)).symm | exact (if_neg (by assumption)).symm | exact (b2_t (by assumption)).symm | exact (b2_f (by assumption)).symm | simp_all [b2]) K1
  · refine e_iconst (nI (0)) dX6_joined_161 (by decide) ?_
    refine e_goto 168 dX6_joined_162 (by decide) ?_
    exact e_top ((if y = 0 then nI 0 else x / y)) (by first | exact (if_pos (by assumption)).symm | exact (if_neg (by assumption)).symm | exact (b2_t (by assumption)).symm | exact (b2_f (by assumption)).symm | simp_all [b2]) K1
set_option maxRecDepth 20000 in
theorem k_join20009 (D : En) {h : AH} (x y : Int32) : Sp D 0 mX6_joined [.int (nI 37), .int x, .int y] h 0 0 (some (.int (doneR 20009 x y))) (fun h' => h' = h) := by
  intro post hp
  show Ev D 0 mX6_joined 0 [some (.int (nI (37))), some (.int (x)), some (.int (y))] [] h 0 0 post
  refine e_iload_n dX6_joined_0 rfl ?_
  refine e_lookup (off := 168) 169 dX6_joined_1 (by decide) (by decide) (by decide) ?_
  refine e_iload_n dX6_joined_169 rfl ?_
  have K1 : Ev D 0 mX6_joined 180 [some (.int (nI (37))), some (.int (x)), some (.int (y))] [.int (if y = 0 then nI 0 else x - x / y * y)] h 0 0 post := by
    exact e_iret dX6_joined_180 rfl (hp _ rfl)
  refine e_if_ne 177 dX6_joined_170 (by decide) (fun hcq170 => ?_) (fun hcq170 => ?_)
  · refine e_iload_n dX6_joined_177 rfl ?_
    refine e_iload_n dX6_joined_178 rfl ?_
    refine e_irem dX6_joined_179 hcq170 ?_
    exact e_top ((if y = 0 then nI 0 else x - x / y * y)) (by first | exact (if_pos (by assumption)).symm | exact (if_neg (by assumption)).symm | exact (b2_t (by assumption)).symm | exact (b2_f (by assumption)).symm | simp_all [b2]) K1
  · refine e_iconst (nI (0)) dX6_joined_173 (by decide) ?_
    refine e_goto 180 dX6_joined_174 (by decide) ?_
    exact e_top ((if y = 0 then nI 0 else x - x / y * y)) (by first | exact (if_pos (by assumption)).symm | exact (if_neg (by assumption)).symm | exact (b2_t (by assumption)).symm | exact (b2_f (by assumption)).symm | simp_all [b2]) K1
set_option maxRecDepth 20000 in
theorem kl_work (D : En) {h : AH} {r u : Nat} {tx : List Nat} (hr : RuleAt h r u tx) (hl50 : tx.length ≤ 50) (hcd : ∀ q, q ∈ tx → q < 20011) {post : Option Value → AH → Prop} (a b c e v : Int32) (hp : ∀ h', (∃ k, h' = h.set (r + 3) (.inl (0, 50, .inl k))) → post (some (.int v)) h') : ∀ (j : Nat) (i m : Nat) (p : Nat → Int32) (s : List Int32), (i + j = tx.length) → (PS p s) → (m = s.length) → (m ≤ i) → (stk a b c e (tx.drop i) s = some [v]) → Ev D 1 mX6_workOut 6 [some (.ref (r)), some (.int (a)), some (.int (b)), some (.int (c)), some (.int (e)), some (.int (nI (m))), some (.int (nI (i))), none] [] (h.set (r + 3) (.inl (0, 50, .inl p))) 0 0 post := by
  obtain ⟨h97, ⟨pl, fa, hr0⟩, ⟨bi, hr1⟩, ⟨cf, hr2, hcf⟩, ⟨kf, hr3⟩⟩ := id hr
  intro j
  induction j with
  | zero =>
    intro i m p s hm hps hsl hmi hs
    have hc0 : (h.set (r + 3) (.inl (0, 50, .inl p)))[r]? = _ := getset hr0 (by omega)
    have hc1 : (h.set (r + 3) (.inl (0, 50, .inl p)))[r + 1]? = _ := getset hr1 (by omega)
    have hc2 : Row0 (h.set (r + 3) (.inl (0, 50, .inl p))) (r + 2) 50 cf := getset hr2 (by omega)
    have hc3 : Row0 (h.set (r + 3) (.inl (0, 50, .inl p))) (r + 3) 50 p := getself hr3
    rw [List.drop_eq_nil_of_le (by omega), stk] at hs
    cases hs
    have hv0 : p 0 = v := hps.1
    refine e_iload dX6_workOut_6 rfl ?_
    refine e_aload_n dX6_workOut_8 rfl ?_
    refine e_get dX6_workOut_9 fl_X6_14_6 hc0 rfl ?_
    refine e_get dX6_workOut_12 fl_X6_45_5 hc1 rfl ?_
    refine e_icmp_geN 173 dX6_workOut_15 (by decide) (by omega) (by omega) (fun hcq15 => ?_) (fun hcq15 => absurd hcq15 (by omega))
    refine e_aload_n dX6_workOut_173 rfl ?_
    refine e_get dX6_workOut_174 fl_X6_20_6 hc0 rfl ?_
    refine e_iconst (nI (0)) dX6_workOut_177 (by decide) ?_
    refine e_ild (0) ((v)) dX6_workOut_178 hc3 rfl (by omega) (by decide) hv0 ?_
    exact e_iret dX6_workOut_179 rfl (hp _ ⟨p, rfl⟩)
  | succ j ih =>
    intro i m p s hm hps hsl hmi hs
    have hc0 : (h.set (r + 3) (.inl (0, 50, .inl p)))[r]? = _ := getset hr0 (by omega)
    have hc1 : (h.set (r + 3) (.inl (0, 50, .inl p)))[r + 1]? = _ := getset hr1 (by omega)
    have hc2 : Row0 (h.set (r + 3) (.inl (0, 50, .inl p))) (r + 2) 50 cf := getset hr2 (by omega)
    have hc3 : Row0 (h.set (r + 3) (.inl (0, 50, .inl p))) (r + 3) 50 p := getself hr3
    have hq1 := hcf i (by omega)
    have hq2 : tx.getD i 0 < 20011 := by rw [List.getD_eq_getElem?_getD, List.getElem?_eq_getElem (show i < tx.length by omega)]; exact hcd _ (List.getElem_mem _)
    rw [List.drop_eq_getElem_cons (show i < tx.length by omega), show tx[i] = tx.getD i 0 from by simp [List.getD_eq_getElem?_getD, show i < tx.length by omega]] at hs
    generalize tx.getD i 0 = q at hs hq1 hq2
    refine e_iload dX6_workOut_6 rfl ?_
    refine e_aload_n dX6_workOut_8 rfl ?_
    refine e_get dX6_workOut_9 fl_X6_14_6 hc0 rfl ?_
    refine e_get dX6_workOut_12 fl_X6_45_5 hc1 rfl ?_
    refine e_icmp_geN 173 dX6_workOut_15 (by decide) (by omega) (by omega) (fun hcq15 => absurd hcq15 (by omega)) (fun hcq15 => ?_)
    refine e_aload_n dX6_workOut_18 rfl ?_
    refine e_get dX6_workOut_19 fl_X6_14_6 hc0 rfl ?_
    refine e_get dX6_workOut_22 fl_X6_51_5 hc1 rfl ?_
    refine e_iload dX6_workOut_25 rfl ?_
    refine e_ild (i) ((stC q)) dX6_workOut_27 hc2 rfl (by omega) (by decide) hq1 ?_
    rcases Nat.lt_or_ge q 20000 with hq3 | hq3
    · rw [stk_cons, if_pos hq3] at hs
      refine e_top (nI q) (if_pos hq3) ?_
      refine e_istore dX6_workOut_28 (by decide) ?_
      refine e_iload dX6_workOut_30 rfl ?_
      refine e_if_ltN (tgt := 85) dX6_workOut_32 (by decide) (by omega) ?_
      refine e_iload dX6_workOut_35 rfl ?_
      refine e_aload_n dX6_workOut_37 rfl ?_
      refine e_get dX6_workOut_38 fl_X6_20_6 hc0 rfl ?_
      refine e_alen dX6_workOut_41 hc3 ?_
      refine e_top (nI 50) rfl ?_
      refine e_icmp_geN 85 dX6_workOut_42 (by decide) (by omega) (by omega) (fun hcq42 => absurd hcq42 (by omega)) (fun hcq42 => ?_)
      refine e_aload_n dX6_workOut_45 rfl ?_
      refine e_get dX6_workOut_46 fl_X6_20_6 hc0 rfl ?_
      refine e_iload dX6_workOut_49 rfl ?_
      refine e_iload dX6_workOut_51 rfl ?_
      refine e_sipush (nI (10000)) dX6_workOut_53 (by decide) ?_
      refine e_icmp_ltN 76 dX6_workOut_56 (by decide) (by omega) (by omega) (fun hcq56 => ?_) (fun hcq56 => ?_)
      · refine e_iload dX6_workOut_76 rfl ?_
        refine e_top (pushV a b c e q) (by first | rfl | (unfold pushV; rw [if_pos (by omega)]; done)) ?_
        refine e_ist (m) dX6_workOut_78 hc3 rfl (by omega) (by decide) ?_
        rw [set_set]
        refine e_iincN (m + 1) dX6_workOut_79 rfl (by decide) (nI_add _ _) ?_
        refine e_goto 167 dX6_workOut_82 (by decide) ?_
        refine e_iincN (i + 1) dX6_workOut_167 rfl (by decide) (nI_add _ _) ?_
        refine e_goto 6 dX6_workOut_170 (by decide) ?_
        refine Ev.drop 7 ?_
        exact ih (i + 1) (m + 1) (upd p m (pushV a b c e q)) (pushV a b c e q :: s) (by omega) (by rw [hsl]; exact PS_push _ hps) (by simp [hsl]) (by omega) hs
      · refine e_iload dX6_workOut_59 rfl ?_
        refine e_sipush (nI (10000)) dX6_workOut_61 (by decide) ?_
        refine e_isubN dX6_workOut_64 (by omega) ?_
        refine e_iload_n dX6_workOut_65 rfl ?_
        refine e_iload_n dX6_workOut_66 rfl ?_
        refine e_iload_n dX6_workOut_67 rfl ?_
        refine e_iload dX6_workOut_68 rfl ?_
        refine c_S5iR (N := mX6_named) dX6_workOut_70 ls_X6_54 mo_X6_named  (Nat.le_of_ble_eq_true rfl) (Nat.le_of_ble_eq_true rfl) (by decide) (k_named D q (by omega) a b c e) ?_
        refine e_goto 78 dX6_workOut_73 (by decide) ?_
        refine e_top (pushV a b c e q) (by first | rfl | (unfold pushV; rw [if_pos (by omega)]; done)) ?_
        refine e_ist (m) dX6_workOut_78 hc3 rfl (by omega) (by decide) ?_
        rw [set_set]
        refine e_iincN (m + 1) dX6_workOut_79 rfl (by decide) (nI_add _ _) ?_
        refine e_goto 167 dX6_workOut_82 (by decide) ?_
        refine e_iincN (i + 1) dX6_workOut_167 rfl (by decide) (nI_add _ _) ?_
        refine e_goto 6 dX6_workOut_170 (by decide) ?_
        refine Ev.drop 7 ?_
        exact ih (i + 1) (m + 1) (upd p m (pushV a b c e q)) (pushV a b c e q :: s) (by omega) (by rw [hsl]; exact PS_push _ hps) (by simp [hsl]) (by omega) hs
    · have hsp : q = 20000 ∨ q = 20001 ∨ q = 20002 ∨ q = 20003 ∨ q = 20004 ∨ q = 20005 ∨ q = 20006 ∨ q = 20007 ∨ q = 20008 ∨ q = 20009 ∨ q = 20010 := by omega
      rcases hsp with rfl | rfl | rfl | rfl | rfl | rfl | rfl | rfl | rfl | rfl | rfl
      · refine e_top (-124) (by decide) ?_
        rw [stk_cons, if_neg (by decide), if_neg (by decide)] at hs
        obtain ⟨y, x, s', rfl⟩ : ∃ y x s', s = y :: x :: s' := by
          match s, hs with
          | [], hs => cases hs
          | [_], hs => cases hs
          | y :: x :: s', _ => exact ⟨y, x, s', rfl⟩
        simp only [List.length_cons] at hsl
        have hpy : p (m - 1) = y := by rw [show m - 1 = (x :: s').length by simp; omega]; exact hps.1
        have hpx : p (m - 1 - 1) = x := by rw [show m - 1 - 1 = s'.length by omega]; exact hps.2.1
        refine e_istore dX6_workOut_28 (by decide) ?_
        refine e_iload dX6_workOut_30 rfl ?_
        refine e_if_lt 85 dX6_workOut_32 (by decide) (fun hcq32 => ?_) (fun hcq32 => absurd (show (-124 : Int32) < 0 by decide) hcq32)
        refine e_iload dX6_workOut_85 rfl ?_
        refine e_bipush (((-33))) dX6_workOut_87 (by decide) ?_
        refine e_icmp_ne 127 dX6_workOut_89 (by decide) (fun hcq89 => ?_) (fun hcq89 => absurd hcq89 (by decide))
        refine e_iload dX6_workOut_127 rfl ?_
        refine e_iconst (nI (2)) dX6_workOut_129 (by decide) ?_
        refine e_icmp_ltN 167 dX6_workOut_130 (by decide) (by omega) (by omega) (fun hcq130 => absurd hcq130 (by omega)) (fun hcq130 => ?_)
        refine e_iincN (m - 1) dX6_workOut_133 rfl (by decide) (sb_m1 (by omega)) ?_
        refine e_aload_n dX6_workOut_136 rfl ?_
        refine e_get dX6_workOut_137 fl_X6_20_6 hc0 rfl ?_
        refine e_iload dX6_workOut_140 rfl ?_
        refine e_iconst (nI (1)) dX6_workOut_142 (by decide) ?_
        refine e_isubN dX6_workOut_143 (by omega) ?_
        refine e_iload dX6_workOut_144 rfl ?_
        refine e_ineg dX6_workOut_146 ?_
        refine e_aload_n dX6_workOut_147 rfl ?_
        refine e_get dX6_workOut_148 fl_X6_20_6 hc0 rfl ?_
        refine e_iload dX6_workOut_151 rfl ?_
        refine e_iconst (nI (1)) dX6_workOut_153 (by decide) ?_
        refine e_isubN dX6_workOut_154 (by omega) ?_
        refine e_ild ((m - 1) - 1) ((x)) dX6_workOut_155 hc3 rfl (by omega) (by decide) hpx ?_
        refine e_aload_n dX6_workOut_156 rfl ?_
        refine e_get dX6_workOut_157 fl_X6_20_6 hc0 rfl ?_
        refine e_iload dX6_workOut_160 rfl ?_
        refine e_ild (m - 1) ((y)) dX6_workOut_162 hc3 rfl (by omega) (by decide) hpy ?_
        refine c_S3iR (N := mX6_joined) dX6_workOut_163 ls_X6_58 mo_X6_joined  (Nat.le_of_ble_eq_true rfl) (Nat.le_of_ble_eq_true rfl) (by decide) (k_join20000 D x y) ?_
        refine e_ist ((m - 1) - 1) dX6_workOut_166 hc3 rfl (by omega) (by decide) ?_
        rw [set_set]
        refine e_iincN (i + 1) dX6_workOut_167 rfl (by decide) (nI_add _ _) ?_
        refine e_goto 6 dX6_workOut_170 (by decide) ?_
        refine Ev.drop 7 ?_
        exact ih (i + 1) (m - 1) (upd p (m - 1 - 1) (doneR 20000 x y)) (doneR 20000 x y :: s') (by omega) (by rw [show m - 1 - 1 = s'.length by omega]; exact PS_push _ hps.2.2) (by simp; omega) (by omega) hs
      · refine e_top (-38) (by decide) ?_
        rw [stk_cons, if_neg (by decide), if_neg (by decide)] at hs
        obtain ⟨y, x, s', rfl⟩ : ∃ y x s', s = y :: x :: s' := by
          match s, hs with
          | [], hs => cases hs
          | [_], hs => cases hs
          | y :: x :: s', _ => exact ⟨y, x, s', rfl⟩
        simp only [List.length_cons] at hsl
        have hpy : p (m - 1) = y := by rw [show m - 1 = (x :: s').length by simp; omega]; exact hps.1
        have hpx : p (m - 1 - 1) = x := by rw [show m - 1 - 1 = s'.length by omega]; exact hps.2.1
        refine e_istore dX6_workOut_28 (by decide) ?_
        refine e_iload dX6_workOut_30 rfl ?_
        refine e_if_lt 85 dX6_workOut_32 (by decide) (fun hcq32 => ?_) (fun hcq32 => absurd (show (-38 : Int32) < 0 by decide) hcq32)
        refine e_iload dX6_workOut_85 rfl ?_
        refine e_bipush (((-33))) dX6_workOut_87 (by decide) ?_
        refine e_icmp_ne 127 dX6_workOut_89 (by decide) (fun hcq89 => ?_) (fun hcq89 => absurd hcq89 (by decide))
        refine e_iload dX6_workOut_127 rfl ?_
        refine e_iconst (nI (2)) dX6_workOut_129 (by decide) ?_
        refine e_icmp_ltN 167 dX6_workOut_130 (by decide) (by omega) (by omega) (fun hcq130 => absurd hcq130 (by omega)) (fun hcq130 => ?_)
        refine e_iincN (m - 1) dX6_workOut_133 rfl (by decide) (sb_m1 (by omega)) ?_
        refine e_aload_n dX6_workOut_136 rfl ?_
        refine e_get dX6_workOut_137 fl_X6_20_6 hc0 rfl ?_
        refine e_iload dX6_workOut_140 rfl ?_
        refine e_iconst (nI (1)) dX6_workOut_142 (by decide) ?_
        refine e_isubN dX6_workOut_143 (by omega) ?_
        refine e_iload dX6_workOut_144 rfl ?_
        refine e_ineg dX6_workOut_146 ?_
        refine e_aload_n dX6_workOut_147 rfl ?_
        refine e_get dX6_workOut_148 fl_X6_20_6 hc0 rfl ?_
        refine e_iload dX6_workOut_151 rfl ?_
        refine e_iconst (nI (1)) dX6_workOut_153 (by decide) ?_
        refine e_isubN dX6_workOut_154 (by omega) ?_
        refine e_ild ((m - 1) - 1) ((x)) dX6_workOut_155 hc3 rfl (by omega) (by decide) hpx ?_
        refine e_aload_n dX6_workOut_156 rfl ?_
        refine e_get dX6_workOut_157 fl_X6_20_6 hc0 rfl ?_
        refine e_iload dX6_workOut_160 rfl ?_
        refine e_ild (m - 1) ((y)) dX6_workOut_162 hc3 rfl (by omega) (by decide) hpy ?_
        refine c_S3iR (N := mX6_joined) dX6_workOut_163 ls_X6_58 mo_X6_joined  (Nat.le_of_ble_eq_true rfl) (Nat.le_of_ble_eq_true rfl) (by decide) (k_join20001 D x y) ?_
        refine e_ist ((m - 1) - 1) dX6_workOut_166 hc3 rfl (by omega) (by decide) ?_
        rw [set_set]
        refine e_iincN (i + 1) dX6_workOut_167 rfl (by decide) (nI_add _ _) ?_
        refine e_goto 6 dX6_workOut_170 (by decide) ?_
        refine Ev.drop 7 ?_
        exact ih (i + 1) (m - 1) (upd p (m - 1 - 1) (doneR 20001 x y)) (doneR 20001 x y :: s') (by omega) (by rw [show m - 1 - 1 = s'.length by omega]; exact PS_push _ hps.2.2) (by simp; omega) (by omega) hs
      · refine e_top (-60) (by decide) ?_
        rw [stk_cons, if_neg (by decide), if_neg (by decide)] at hs
        obtain ⟨y, x, s', rfl⟩ : ∃ y x s', s = y :: x :: s' := by
          match s, hs with
          | [], hs => cases hs
          | [_], hs => cases hs
          | y :: x :: s', _ => exact ⟨y, x, s', rfl⟩
        simp only [List.length_cons] at hsl
        have hpy : p (m - 1) = y := by rw [show m - 1 = (x :: s').length by simp; omega]; exact hps.1
        have hpx : p (m - 1 - 1) = x := by rw [show m - 1 - 1 = s'.length by omega]; exact hps.2.1
        refine e_istore dX6_workOut_28 (by decide) ?_
        refine e_iload dX6_workOut_30 rfl ?_
        refine e_if_lt 85 dX6_workOut_32 (by decide) (fun hcq32 => ?_) (fun hcq32 => absurd (show (-60 : Int32) < 0 by decide) hcq32)
        refine e_iload dX6_workOut_85 rfl ?_
        refine e_bipush (((-33))) dX6_workOut_87 (by decide) ?_
        refine e_icmp_ne 127 dX6_workOut_89 (by decide) (fun hcq89 => ?_) (fun hcq89 => absurd hcq89 (by decide))
        refine e_iload dX6_workOut_127 rfl ?_
        refine e_iconst (nI (2)) dX6_workOut_129 (by decide) ?_
        refine e_icmp_ltN 167 dX6_workOut_130 (by decide) (by omega) (by omega) (fun hcq130 => absurd hcq130 (by omega)) (fun hcq130 => ?_)
        refine e_iincN (m - 1) dX6_workOut_133 rfl (by decide) (sb_m1 (by omega)) ?_
        refine e_aload_n dX6_workOut_136 rfl ?_
        refine e_get dX6_workOut_137 fl_X6_20_6 hc0 rfl ?_
        refine e_iload dX6_workOut_140 rfl ?_
        refine e_iconst (nI (1)) dX6_workOut_142 (by decide) ?_
        refine e_isubN dX6_workOut_143 (by omega) ?_
        refine e_iload dX6_workOut_144 rfl ?_
        refine e_ineg dX6_workOut_146 ?_
        refine e_aload_n dX6_workOut_147 rfl ?_
        refine e_get dX6_workOut_148 fl_X6_20_6 hc0 rfl ?_
        refine e_iload dX6_workOut_151 rfl ?_
        refine e_iconst (nI (1)) dX6_workOut_153 (by decide) ?_
        refine e_isubN dX6_workOut_154 (by omega) ?_
        refine e_ild ((m - 1) - 1) ((x)) dX6_workOut_155 hc3 rfl (by omega) (by decide) hpx ?_
        refine e_aload_n dX6_workOut_156 rfl ?_
        refine e_get dX6_workOut_157 fl_X6_20_6 hc0 rfl ?_
        refine e_iload dX6_workOut_160 rfl ?_
        refine e_ild (m - 1) ((y)) dX6_workOut_162 hc3 rfl (by omega) (by decide) hpy ?_
        refine c_S3iR (N := mX6_joined) dX6_workOut_163 ls_X6_58 mo_X6_joined  (Nat.le_of_ble_eq_true rfl) (Nat.le_of_ble_eq_true rfl) (by decide) (k_join20002 D x y) ?_
        refine e_ist ((m - 1) - 1) dX6_workOut_166 hc3 rfl (by omega) (by decide) ?_
        rw [set_set]
        refine e_iincN (i + 1) dX6_workOut_167 rfl (by decide) (nI_add _ _) ?_
        refine e_goto 6 dX6_workOut_170 (by decide) ?_
        refine Ev.drop 7 ?_
        exact ih (i + 1) (m - 1) (upd p (m - 1 - 1) (doneR 20002 x y)) (doneR 20002 x y :: s') (by omega) (by rw [show m - 1 - 1 = s'.length by omega]; exact PS_push _ hps.2.2) (by simp; omega) (by omega) hs
      · refine e_top (-61) (by decide) ?_
        rw [stk_cons, if_neg (by decide), if_neg (by decide)] at hs
        obtain ⟨y, x, s', rfl⟩ : ∃ y x s', s = y :: x :: s' := by
          match s, hs with
          | [], hs => cases hs
          | [_], hs => cases hs
          | y :: x :: s', _ => exact ⟨y, x, s', rfl⟩
        simp only [List.length_cons] at hsl
        have hpy : p (m - 1) = y := by rw [show m - 1 = (x :: s').length by simp; omega]; exact hps.1
        have hpx : p (m - 1 - 1) = x := by rw [show m - 1 - 1 = s'.length by omega]; exact hps.2.1
        refine e_istore dX6_workOut_28 (by decide) ?_
        refine e_iload dX6_workOut_30 rfl ?_
        refine e_if_lt 85 dX6_workOut_32 (by decide) (fun hcq32 => ?_) (fun hcq32 => absurd (show (-61 : Int32) < 0 by decide) hcq32)
        refine e_iload dX6_workOut_85 rfl ?_
        refine e_bipush (((-33))) dX6_workOut_87 (by decide) ?_
        refine e_icmp_ne 127 dX6_workOut_89 (by decide) (fun hcq89 => ?_) (fun hcq89 => absurd hcq89 (by decide))
        refine e_iload dX6_workOut_127 rfl ?_
        refine e_iconst (nI (2)) dX6_workOut_129 (by decide) ?_
        refine e_icmp_ltN 167 dX6_workOut_130 (by decide) (by omega) (by omega) (fun hcq130 => absurd hcq130 (by omega)) (fun hcq130 => ?_)
        refine e_iincN (m - 1) dX6_workOut_133 rfl (by decide) (sb_m1 (by omega)) ?_
        refine e_aload_n dX6_workOut_136 rfl ?_
        refine e_get dX6_workOut_137 fl_X6_20_6 hc0 rfl ?_
        refine e_iload dX6_workOut_140 rfl ?_
        refine e_iconst (nI (1)) dX6_workOut_142 (by decide) ?_
        refine e_isubN dX6_workOut_143 (by omega) ?_
        refine e_iload dX6_workOut_144 rfl ?_
        refine e_ineg dX6_workOut_146 ?_
        refine e_aload_n dX6_workOut_147 rfl ?_
        refine e_get dX6_workOut_148 fl_X6_20_6 hc0 rfl ?_
        refine e_iload dX6_workOut_151 rfl ?_
        refine e_iconst (nI (1)) dX6_workOut_153 (by decide) ?_
        refine e_isubN dX6_workOut_154 (by omega) ?_
        refine e_ild ((m - 1) - 1) ((x)) dX6_workOut_155 hc3 rfl (by omega) (by decide) hpx ?_
        refine e_aload_n dX6_workOut_156 rfl ?_
        refine e_get dX6_workOut_157 fl_X6_20_6 hc0 rfl ?_
        refine e_iload dX6_workOut_160 rfl ?_
        refine e_ild (m - 1) ((y)) dX6_workOut_162 hc3 rfl (by omega) (by decide) hpy ?_
        refine c_S3iR (N := mX6_joined) dX6_workOut_163 ls_X6_58 mo_X6_joined  (Nat.le_of_ble_eq_true rfl) (Nat.le_of_ble_eq_true rfl) (by decide) (k_join20003 D x y) ?_
        refine e_ist ((m - 1) - 1) dX6_workOut_166 hc3 rfl (by omega) (by decide) ?_
        rw [set_set]
        refine e_iincN (i + 1) dX6_workOut_167 rfl (by decide) (nI_add _ _) ?_
        refine e_goto 6 dX6_workOut_170 (by decide) ?_
        refine Ev.drop 7 ?_
        exact ih (i + 1) (m - 1) (upd p (m - 1 - 1) (doneR 20003 x y)) (doneR 20003 x y :: s') (by omega) (by rw [show m - 1 - 1 = s'.length by omega]; exact PS_push _ hps.2.2) (by simp; omega) (by omega) hs
      · refine e_top (-62) (by decide) ?_
        rw [stk_cons, if_neg (by decide), if_neg (by decide)] at hs
        obtain ⟨y, x, s', rfl⟩ : ∃ y x s', s = y :: x :: s' := by
          match s, hs with
          | [], hs => cases hs
          | [_], hs => cases hs
          | y :: x :: s', _ => exact ⟨y, x, s', rfl⟩
        simp only [List.length_cons] at hsl
        have hpy : p (m - 1) = y := by rw [show m - 1 = (x :: s').length by simp; omega]; exact hps.1
        have hpx : p (m - 1 - 1) = x := by rw [show m - 1 - 1 = s'.length by omega]; exact hps.2.1
        refine e_istore dX6_workOut_28 (by decide) ?_
        refine e_iload dX6_workOut_30 rfl ?_
        refine e_if_lt 85 dX6_workOut_32 (by decide) (fun hcq32 => ?_) (fun hcq32 => absurd (show (-62 : Int32) < 0 by decide) hcq32)
        refine e_iload dX6_workOut_85 rfl ?_
        refine e_bipush (((-33))) dX6_workOut_87 (by decide) ?_
        refine e_icmp_ne 127 dX6_workOut_89 (by decide) (fun hcq89 => ?_) (fun hcq89 => absurd hcq89 (by decide))
        refine e_iload dX6_workOut_127 rfl ?_
        refine e_iconst (nI (2)) dX6_workOut_129 (by decide) ?_
        refine e_icmp_ltN 167 dX6_workOut_130 (by decide) (by omega) (by omega) (fun hcq130 => absurd hcq130 (by omega)) (fun hcq130 => ?_)
        refine e_iincN (m - 1) dX6_workOut_133 rfl (by decide) (sb_m1 (by omega)) ?_
        refine e_aload_n dX6_workOut_136 rfl ?_
        refine e_get dX6_workOut_137 fl_X6_20_6 hc0 rfl ?_
        refine e_iload dX6_workOut_140 rfl ?_
        refine e_iconst (nI (1)) dX6_workOut_142 (by decide) ?_
        refine e_isubN dX6_workOut_143 (by omega) ?_
        refine e_iload dX6_workOut_144 rfl ?_
        refine e_ineg dX6_workOut_146 ?_
        refine e_aload_n dX6_workOut_147 rfl ?_
        refine e_get dX6_workOut_148 fl_X6_20_6 hc0 rfl ?_
        refine e_iload dX6_workOut_151 rfl ?_
        refine e_iconst (nI (1)) dX6_workOut_153 (by decide) ?_
        refine e_isubN dX6_workOut_154 (by omega) ?_
        refine e_ild ((m - 1) - 1) ((x)) dX6_workOut_155 hc3 rfl (by omega) (by decide) hpx ?_
        refine e_aload_n dX6_workOut_156 rfl ?_
        refine e_get dX6_workOut_157 fl_X6_20_6 hc0 rfl ?_
        refine e_iload dX6_workOut_160 rfl ?_
        refine e_ild (m - 1) ((y)) dX6_workOut_162 hc3 rfl (by omega) (by decide) hpy ?_
        refine c_S3iR (N := mX6_joined) dX6_workOut_163 ls_X6_58 mo_X6_joined  (Nat.le_of_ble_eq_true rfl) (Nat.le_of_ble_eq_true rfl) (by decide) (k_join20004 D x y) ?_
        refine e_ist ((m - 1) - 1) dX6_workOut_166 hc3 rfl (by omega) (by decide) ?_
        rw [set_set]
        refine e_iincN (i + 1) dX6_workOut_167 rfl (by decide) (nI_add _ _) ?_
        refine e_goto 6 dX6_workOut_170 (by decide) ?_
        refine Ev.drop 7 ?_
        exact ih (i + 1) (m - 1) (upd p (m - 1 - 1) (doneR 20004 x y)) (doneR 20004 x y :: s') (by omega) (by rw [show m - 1 - 1 = s'.length by omega]; exact PS_push _ hps.2.2) (by simp; omega) (by omega) hs
      · refine e_top (-43) (by decide) ?_
        rw [stk_cons, if_neg (by decide), if_neg (by decide)] at hs
        obtain ⟨y, x, s', rfl⟩ : ∃ y x s', s = y :: x :: s' := by
          match s, hs with
          | [], hs => cases hs
          | [_], hs => cases hs
          | y :: x :: s', _ => exact ⟨y, x, s', rfl⟩
        simp only [List.length_cons] at hsl
        have hpy : p (m - 1) = y := by rw [show m - 1 = (x :: s').length by simp; omega]; exact hps.1
        have hpx : p (m - 1 - 1) = x := by rw [show m - 1 - 1 = s'.length by omega]; exact hps.2.1
        refine e_istore dX6_workOut_28 (by decide) ?_
        refine e_iload dX6_workOut_30 rfl ?_
        refine e_if_lt 85 dX6_workOut_32 (by decide) (fun hcq32 => ?_) (fun hcq32 => absurd (show (-43 : Int32) < 0 by decide) hcq32)
        refine e_iload dX6_workOut_85 rfl ?_
        refine e_bipush (((-33))) dX6_workOut_87 (by decide) ?_
        refine e_icmp_ne 127 dX6_workOut_89 (by decide) (fun hcq89 => ?_) (fun hcq89 => absurd hcq89 (by decide))
        refine e_iload dX6_workOut_127 rfl ?_
        refine e_iconst (nI (2)) dX6_workOut_129 (by decide) ?_
        refine e_icmp_ltN 167 dX6_workOut_130 (by decide) (by omega) (by omega) (fun hcq130 => absurd hcq130 (by omega)) (fun hcq130 => ?_)
        refine e_iincN (m - 1) dX6_workOut_133 rfl (by decide) (sb_m1 (by omega)) ?_
        refine e_aload_n dX6_workOut_136 rfl ?_
        refine e_get dX6_workOut_137 fl_X6_20_6 hc0 rfl ?_
        refine e_iload dX6_workOut_140 rfl ?_
        refine e_iconst (nI (1)) dX6_workOut_142 (by decide) ?_
        refine e_isubN dX6_workOut_143 (by omega) ?_
        refine e_iload dX6_workOut_144 rfl ?_
        refine e_ineg dX6_workOut_146 ?_
        refine e_aload_n dX6_workOut_147 rfl ?_
        refine e_get dX6_workOut_148 fl_X6_20_6 hc0 rfl ?_
        refine e_iload dX6_workOut_151 rfl ?_
        refine e_iconst (nI (1)) dX6_workOut_153 (by decide) ?_
        refine e_isubN dX6_workOut_154 (by omega) ?_
        refine e_ild ((m - 1) - 1) ((x)) dX6_workOut_155 hc3 rfl (by omega) (by decide) hpx ?_
        refine e_aload_n dX6_workOut_156 rfl ?_
        refine e_get dX6_workOut_157 fl_X6_20_6 hc0 rfl ?_
        refine e_iload dX6_workOut_160 rfl ?_
        refine e_ild (m - 1) ((y)) dX6_workOut_162 hc3 rfl (by omega) (by decide) hpy ?_
        refine c_S3iR (N := mX6_joined) dX6_workOut_163 ls_X6_58 mo_X6_joined  (Nat.le_of_ble_eq_true rfl) (Nat.le_of_ble_eq_true rfl) (by decide) (k_join20005 D x y) ?_
        refine e_ist ((m - 1) - 1) dX6_workOut_166 hc3 rfl (by omega) (by decide) ?_
        rw [set_set]
        refine e_iincN (i + 1) dX6_workOut_167 rfl (by decide) (nI_add _ _) ?_
        refine e_goto 6 dX6_workOut_170 (by decide) ?_
        refine Ev.drop 7 ?_
        exact ih (i + 1) (m - 1) (upd p (m - 1 - 1) (doneR 20005 x y)) (doneR 20005 x y :: s') (by omega) (by rw [show m - 1 - 1 = s'.length by omega]; exact PS_push _ hps.2.2) (by simp; omega) (by omega) hs
      · refine e_top (-45) (by decide) ?_
        rw [stk_cons, if_neg (by decide), if_neg (by decide)] at hs
        obtain ⟨y, x, s', rfl⟩ : ∃ y x s', s = y :: x :: s' := by
          match s, hs with
          | [], hs => cases hs
          | [_], hs => cases hs
          | y :: x :: s', _ => exact ⟨y, x, s', rfl⟩
        simp only [List.length_cons] at hsl
        have hpy : p (m - 1) = y := by rw [show m - 1 = (x :: s').length by simp; omega]; exact hps.1
        have hpx : p (m - 1 - 1) = x := by rw [show m - 1 - 1 = s'.length by omega]; exact hps.2.1
        refine e_istore dX6_workOut_28 (by decide) ?_
        refine e_iload dX6_workOut_30 rfl ?_
        refine e_if_lt 85 dX6_workOut_32 (by decide) (fun hcq32 => ?_) (fun hcq32 => absurd (show (-45 : Int32) < 0 by decide) hcq32)
        refine e_iload dX6_workOut_85 rfl ?_
        refine e_bipush (((-33))) dX6_workOut_87 (by decide) ?_
        refine e_icmp_ne 127 dX6_workOut_89 (by decide) (fun hcq89 => ?_) (fun hcq89 => absurd hcq89 (by decide))
        refine e_iload dX6_workOut_127 rfl ?_
        refine e_iconst (nI (2)) dX6_workOut_129 (by decide) ?_
        refine e_icmp_ltN 167 dX6_workOut_130 (by decide) (by omega) (by omega) (fun hcq130 => absurd hcq130 (by omega)) (fun hcq130 => ?_)
        refine e_iincN (m - 1) dX6_workOut_133 rfl (by decide) (sb_m1 (by omega)) ?_
        refine e_aload_n dX6_workOut_136 rfl ?_
        refine e_get dX6_workOut_137 fl_X6_20_6 hc0 rfl ?_
        refine e_iload dX6_workOut_140 rfl ?_
        refine e_iconst (nI (1)) dX6_workOut_142 (by decide) ?_
        refine e_isubN dX6_workOut_143 (by omega) ?_
        refine e_iload dX6_workOut_144 rfl ?_
        refine e_ineg dX6_workOut_146 ?_
        refine e_aload_n dX6_workOut_147 rfl ?_
        refine e_get dX6_workOut_148 fl_X6_20_6 hc0 rfl ?_
        refine e_iload dX6_workOut_151 rfl ?_
        refine e_iconst (nI (1)) dX6_workOut_153 (by decide) ?_
        refine e_isubN dX6_workOut_154 (by omega) ?_
        refine e_ild ((m - 1) - 1) ((x)) dX6_workOut_155 hc3 rfl (by omega) (by decide) hpx ?_
        refine e_aload_n dX6_workOut_156 rfl ?_
        refine e_get dX6_workOut_157 fl_X6_20_6 hc0 rfl ?_
        refine e_iload dX6_workOut_160 rfl ?_
        refine e_ild (m - 1) ((y)) dX6_workOut_162 hc3 rfl (by omega) (by decide) hpy ?_
        refine c_S3iR (N := mX6_joined) dX6_workOut_163 ls_X6_58 mo_X6_joined  (Nat.le_of_ble_eq_true rfl) (Nat.le_of_ble_eq_true rfl) (by decide) (k_join20006 D x y) ?_
        refine e_ist ((m - 1) - 1) dX6_workOut_166 hc3 rfl (by omega) (by decide) ?_
        rw [set_set]
        refine e_iincN (i + 1) dX6_workOut_167 rfl (by decide) (nI_add _ _) ?_
        refine e_goto 6 dX6_workOut_170 (by decide) ?_
        refine Ev.drop 7 ?_
        exact ih (i + 1) (m - 1) (upd p (m - 1 - 1) (doneR 20006 x y)) (doneR 20006 x y :: s') (by omega) (by rw [show m - 1 - 1 = s'.length by omega]; exact PS_push _ hps.2.2) (by simp; omega) (by omega) hs
      · refine e_top (-42) (by decide) ?_
        rw [stk_cons, if_neg (by decide), if_neg (by decide)] at hs
        obtain ⟨y, x, s', rfl⟩ : ∃ y x s', s = y :: x :: s' := by
          match s, hs with
          | [], hs => cases hs
          | [_], hs => cases hs
          | y :: x :: s', _ => exact ⟨y, x, s', rfl⟩
        simp only [List.length_cons] at hsl
        have hpy : p (m - 1) = y := by rw [show m - 1 = (x :: s').length by simp; omega]; exact hps.1
        have hpx : p (m - 1 - 1) = x := by rw [show m - 1 - 1 = s'.length by omega]; exact hps.2.1
        refine e_istore dX6_workOut_28 (by decide) ?_
        refine e_iload dX6_workOut_30 rfl ?_
        refine e_if_lt 85 dX6_workOut_32 (by decide) (fun hcq32 => ?_) (fun hcq32 => absurd (show (-42 : Int32) < 0 by decide) hcq32)
        refine e_iload dX6_workOut_85 rfl ?_
        refine e_bipush (((-33))) dX6_workOut_87 (by decide) ?_
        refine e_icmp_ne 127 dX6_workOut_89 (by decide) (fun hcq89 => ?_) (fun hcq89 => absurd hcq89 (by decide))
        refine e_iload dX6_workOut_127 rfl ?_
        refine e_iconst (nI (2)) dX6_workOut_129 (by decide) ?_
        refine e_icmp_ltN 167 dX6_workOut_130 (by decide) (by omega) (by omega) (fun hcq130 => absurd hcq130 (by omega)) (fun hcq130 => ?_)
        refine e_iincN (m - 1) dX6_workOut_133 rfl (by decide) (sb_m1 (by omega)) ?_
        refine e_aload_n dX6_workOut_136 rfl ?_
        refine e_get dX6_workOut_137 fl_X6_20_6 hc0 rfl ?_
        refine e_iload dX6_workOut_140 rfl ?_
        refine e_iconst (nI (1)) dX6_workOut_142 (by decide) ?_
        refine e_isubN dX6_workOut_143 (by omega) ?_
        refine e_iload dX6_workOut_144 rfl ?_
        refine e_ineg dX6_workOut_146 ?_
        refine e_aload_n dX6_workOut_147 rfl ?_
        refine e_get dX6_workOut_148 fl_X6_20_6 hc0 rfl ?_
        refine e_iload dX6_workOut_151 rfl ?_
        refine e_iconst (nI (1)) dX6_workOut_153 (by decide) ?_
        refine e_isubN dX6_workOut_154 (by omega) ?_
        refine e_ild ((m - 1) - 1) ((x)) dX6_workOut_155 hc3 rfl (by omega) (by decide) hpx ?_
        refine e_aload_n dX6_workOut_156 rfl ?_
        refine e_get dX6_workOut_157 fl_X6_20_6 hc0 rfl ?_
        refine e_iload dX6_workOut_160 rfl ?_
        refine e_ild (m - 1) ((y)) dX6_workOut_162 hc3 rfl (by omega) (by decide) hpy ?_
        refine c_S3iR (N := mX6_joined) dX6_workOut_163 ls_X6_58 mo_X6_joined  (Nat.le_of_ble_eq_true rfl) (Nat.le_of_ble_eq_true rfl) (by decide) (k_join20007 D x y) ?_
        refine e_ist ((m - 1) - 1) dX6_workOut_166 hc3 rfl (by omega) (by decide) ?_
        rw [set_set]
        refine e_iincN (i + 1) dX6_workOut_167 rfl (by decide) (nI_add _ _) ?_
        refine e_goto 6 dX6_workOut_170 (by decide) ?_
        refine Ev.drop 7 ?_
        exact ih (i + 1) (m - 1) (upd p (m - 1 - 1) (doneR 20007 x y)) (doneR 20007 x y :: s') (by omega) (by rw [show m - 1 - 1 = s'.length by omega]; exact PS_push _ hps.2.2) (by simp; omega) (by omega) hs
      · refine e_top (-47) (by decide) ?_
        rw [stk_cons, if_neg (by decide), if_neg (by decide)] at hs
        obtain ⟨y, x, s', rfl⟩ : ∃ y x s', s = y :: x :: s' := by
          match s, hs with
          | [], hs => cases hs
          | [_], hs => cases hs
          | y :: x :: s', _ => exact ⟨y, x, s', rfl⟩
        simp only [List.length_cons] at hsl
        have hpy : p (m - 1) = y := by rw [show m - 1 = (x :: s').length by simp; omega]; exact hps.1
        have hpx : p (m - 1 - 1) = x := by rw [show m - 1 - 1 = s'.length by omega]; exact hps.2.1
        refine e_istore dX6_workOut_28 (by decide) ?_
        refine e_iload dX6_workOut_30 rfl ?_
        refine e_if_lt 85 dX6_workOut_32 (by decide) (fun hcq32 => ?_) (fun hcq32 => absurd (show (-47 : Int32) < 0 by decide) hcq32)
        refine e_iload dX6_workOut_85 rfl ?_
        refine e_bipush (((-33))) dX6_workOut_87 (by decide) ?_
        refine e_icmp_ne 127 dX6_workOut_89 (by decide) (fun hcq89 => ?_) (fun hcq89 => absurd hcq89 (by decide))
        refine e_iload dX6_workOut_127 rfl ?_
        refine e_iconst (nI (2)) dX6_workOut_129 (by decide) ?_
        refine e_icmp_ltN 167 dX6_workOut_130 (by decide) (by omega) (by omega) (fun hcq130 => absurd hcq130 (by omega)) (fun hcq130 => ?_)
        refine e_iincN (m - 1) dX6_workOut_133 rfl (by decide) (sb_m1 (by omega)) ?_
        refine e_aload_n dX6_workOut_136 rfl ?_
        refine e_get dX6_workOut_137 fl_X6_20_6 hc0 rfl ?_
        refine e_iload dX6_workOut_140 rfl ?_
        refine e_iconst (nI (1)) dX6_workOut_142 (by decide) ?_
        refine e_isubN dX6_workOut_143 (by omega) ?_
        refine e_iload dX6_workOut_144 rfl ?_
        refine e_ineg dX6_workOut_146 ?_
        refine e_aload_n dX6_workOut_147 rfl ?_
        refine e_get dX6_workOut_148 fl_X6_20_6 hc0 rfl ?_
        refine e_iload dX6_workOut_151 rfl ?_
        refine e_iconst (nI (1)) dX6_workOut_153 (by decide) ?_
        refine e_isubN dX6_workOut_154 (by omega) ?_
        refine e_ild ((m - 1) - 1) ((x)) dX6_workOut_155 hc3 rfl (by omega) (by decide) hpx ?_
        refine e_aload_n dX6_workOut_156 rfl ?_
        refine e_get dX6_workOut_157 fl_X6_20_6 hc0 rfl ?_
        refine e_iload dX6_workOut_160 rfl ?_
        refine e_ild (m - 1) ((y)) dX6_workOut_162 hc3 rfl (by omega) (by decide) hpy ?_
        refine c_S3iR (N := mX6_joined) dX6_workOut_163 ls_X6_58 mo_X6_joined  (Nat.le_of_ble_eq_true rfl) (Nat.le_of_ble_eq_true rfl) (by decide) (k_join20008 D x y) ?_
        refine e_ist ((m - 1) - 1) dX6_workOut_166 hc3 rfl (by omega) (by decide) ?_
        rw [set_set]
        refine e_iincN (i + 1) dX6_workOut_167 rfl (by decide) (nI_add _ _) ?_
        refine e_goto 6 dX6_workOut_170 (by decide) ?_
        refine Ev.drop 7 ?_
        exact ih (i + 1) (m - 1) (upd p (m - 1 - 1) (doneR 20008 x y)) (doneR 20008 x y :: s') (by omega) (by rw [show m - 1 - 1 = s'.length by omega]; exact PS_push _ hps.2.2) (by simp; omega) (by omega) hs
      · refine e_top (-37) (by decide) ?_
        rw [stk_cons, if_neg (by decide), if_neg (by decide)] at hs
        obtain ⟨y, x, s', rfl⟩ : ∃ y x s', s = y :: x :: s' := by
          match s, hs with
          | [], hs => cases hs
          | [_], hs => cases hs
          | y :: x :: s', _ => exact ⟨y, x, s', rfl⟩
        simp only [List.length_cons] at hsl
        have hpy : p (m - 1) = y := by rw [show m - 1 = (x :: s').length by simp; omega]; exact hps.1
        have hpx : p (m - 1 - 1) = x := by rw [show m - 1 - 1 = s'.length by omega]; exact hps.2.1
        refine e_istore dX6_workOut_28 (by decide) ?_
        refine e_iload dX6_workOut_30 rfl ?_
        refine e_if_lt 85 dX6_workOut_32 (by decide) (fun hcq32 => ?_) (fun hcq32 => absurd (show (-37 : Int32) < 0 by decide) hcq32)
        refine e_iload dX6_workOut_85 rfl ?_
        refine e_bipush (((-33))) dX6_workOut_87 (by decide) ?_
        refine e_icmp_ne 127 dX6_workOut_89 (by decide) (fun hcq89 => ?_) (fun hcq89 => absurd hcq89 (by decide))
        refine e_iload dX6_workOut_127 rfl ?_
        refine e_iconst (nI (2)) dX6_workOut_129 (by decide) ?_
        refine e_icmp_ltN 167 dX6_workOut_130 (by decide) (by omega) (by omega) (fun hcq130 => absurd hcq130 (by omega)) (fun hcq130 => ?_)
        refine e_iincN (m - 1) dX6_workOut_133 rfl (by decide) (sb_m1 (by omega)) ?_
        refine e_aload_n dX6_workOut_136 rfl ?_
        refine e_get dX6_workOut_137 fl_X6_20_6 hc0 rfl ?_
        refine e_iload dX6_workOut_140 rfl ?_
        refine e_iconst (nI (1)) dX6_workOut_142 (by decide) ?_
        refine e_isubN dX6_workOut_143 (by omega) ?_
        refine e_iload dX6_workOut_144 rfl ?_
        refine e_ineg dX6_workOut_146 ?_
        refine e_aload_n dX6_workOut_147 rfl ?_
        refine e_get dX6_workOut_148 fl_X6_20_6 hc0 rfl ?_
        refine e_iload dX6_workOut_151 rfl ?_
        refine e_iconst (nI (1)) dX6_workOut_153 (by decide) ?_
        refine e_isubN dX6_workOut_154 (by omega) ?_
        refine e_ild ((m - 1) - 1) ((x)) dX6_workOut_155 hc3 rfl (by omega) (by decide) hpx ?_
        refine e_aload_n dX6_workOut_156 rfl ?_
        refine e_get dX6_workOut_157 fl_X6_20_6 hc0 rfl ?_
        refine e_iload dX6_workOut_160 rfl ?_
        refine e_ild (m - 1) ((y)) dX6_workOut_162 hc3 rfl (by omega) (by decide) hpy ?_
        refine c_S3iR (N := mX6_joined) dX6_workOut_163 ls_X6_58 mo_X6_joined  (Nat.le_of_ble_eq_true rfl) (Nat.le_of_ble_eq_true rfl) (by decide) (k_join20009 D x y) ?_
        refine e_ist ((m - 1) - 1) dX6_workOut_166 hc3 rfl (by omega) (by decide) ?_
        rw [set_set]
        refine e_iincN (i + 1) dX6_workOut_167 rfl (by decide) (nI_add _ _) ?_
        refine e_goto 6 dX6_workOut_170 (by decide) ?_
        refine Ev.drop 7 ?_
        exact ih (i + 1) (m - 1) (upd p (m - 1 - 1) (doneR 20009 x y)) (doneR 20009 x y :: s') (by omega) (by rw [show m - 1 - 1 = s'.length by omega]; exact PS_push _ hps.2.2) (by simp; omega) (by omega) hs
      · refine e_top (-33) (by decide) ?_
        rw [stk_cons, if_neg (by decide), if_pos rfl] at hs
        obtain ⟨x, s', rfl⟩ : ∃ x s', s = x :: s' := by
          cases s with
          | nil => cases hs
          | cons x s' => exact ⟨x, s', rfl⟩
        simp only [List.length_cons] at hsl
        have hpx : p (m - 1) = x := by rw [show m - 1 = s'.length by omega]; exact hps.1
        refine e_istore dX6_workOut_28 (by decide) ?_
        refine e_iload dX6_workOut_30 rfl ?_
        refine e_if_lt 85 dX6_workOut_32 (by decide) (fun hcq32 => ?_) (fun hcq32 => absurd (show (-33 : Int32) < 0 by decide) hcq32)
        refine e_iload dX6_workOut_85 rfl ?_
        refine e_bipush (((-33))) dX6_workOut_87 (by decide) ?_
        refine e_icmp_ne 127 dX6_workOut_89 (by decide) (fun hcq89 => absurd rfl hcq89) (fun hcq89 => ?_)
        refine e_iload dX6_workOut_92 rfl ?_
        refine e_iconst (nI (1)) dX6_workOut_94 (by decide) ?_
        refine e_icmp_ltN 127 dX6_workOut_95 (by decide) (by omega) (by omega) (fun hcq95 => absurd hcq95 (by omega)) (fun hcq95 => ?_)
        refine e_aload_n dX6_workOut_98 rfl ?_
        refine e_get dX6_workOut_99 fl_X6_20_6 hc0 rfl ?_
        refine e_iload dX6_workOut_102 rfl ?_
        refine e_iconst (nI (1)) dX6_workOut_104 (by decide) ?_
        refine e_isubN dX6_workOut_105 (by omega) ?_
        refine e_aload_n dX6_workOut_106 rfl ?_
        refine e_get dX6_workOut_107 fl_X6_20_6 hc0 rfl ?_
        refine e_iload dX6_workOut_110 rfl ?_
        refine e_iconst (nI (1)) dX6_workOut_112 (by decide) ?_
        refine e_isubN dX6_workOut_113 (by omega) ?_
        refine e_ild (m - 1) ((x)) dX6_workOut_114 hc3 rfl (by omega) (by decide) hpx ?_
        have K1 : Ev D 1 mX6_workOut 123 [some (.ref (r)), some (.int (a)), some (.int (b)), some (.int (c)), some (.int (e)), some (.int (nI (m))), some (.int (nI (i))), some (.int ((-33)))] [.int (if x = 0 then nI 1 else nI 0), .int (nI (m - 1)), .ref (r + 3)] (h.set (r + 3) (.inl (0, 50, .inl p))) 0 0 post := by
          refine e_ist (m - 1) dX6_workOut_123 hc3 rfl (by omega) (by decide) ?_
          rw [set_set]
          refine e_goto 167 dX6_workOut_124 (by decide) ?_
          refine e_iincN (i + 1) dX6_workOut_167 rfl (by decide) (nI_add _ _) ?_
          refine e_goto 6 dX6_workOut_170 (by decide) ?_
          refine Ev.drop 7 ?_
          exact ih (i + 1) m (upd p (m - 1) (if x = 0 then nI 1 else nI 0)) ((if x = 0 then nI 1 else nI 0) :: s') (by omega) (by rw [show m - 1 = s'.length by omega]; exact PS_push _ hps.2) (by simp; omega) (by omega) hs
        refine e_if_ne 122 dX6_workOut_115 (by decide) (fun hcq115 => ?_) (fun hcq115 => ?_)
        · refine e_iconst (nI (0)) dX6_workOut_122 (by decide) ?_
          exact e_top ((if x = 0 then nI 1 else nI 0)) (by first | exact (if_pos (by assumption)).symm | exact (if_neg (by assumption)).symm | exact (b2_t (by assumption)).symm | exact (b2_f (by assumption)).symm | simp_all [b2]) K1
        · refine e_iconst (nI (1)) dX6_workOut_118 (by decide) ?_
          refine e_goto 123 dX6_workOut_119 (by decide) ?_
          exact e_top ((if x = 0 then nI 1 else nI 0)) (by first | exact (if_pos (by assumption)).symm | exact (if_neg (by assumption)).symm | exact (b2_t (by assumption)).symm | exact (b2_f (by assumption)).symm | simp_all [b2]) K1
set_option maxRecDepth 20000 in
theorem k_work (D : En) {h : AH} {r u : Nat} {tx : List Nat} (hr : RuleAt h r u tx) (hl50 : tx.length ≤ 50) (hcd : ∀ q, q ∈ tx → q < 20011) (a b c e v : Int32) (hv : stk a b c e tx [] = some [v]) : Sp D 1 mX6_workOut [.ref r, .int a, .int b, .int c, .int e] h 0 0 (some (.int v)) (fun h' => ∃ k, h' = h.set (r + 3) (.inl (0, 50, .inl k))) := by
  obtain ⟨h97, ⟨pl, fa, hr0⟩, ⟨bi, hr1⟩, ⟨cf, hr2, hcf⟩, ⟨kf, hr3⟩⟩ := id hr
  intro post hp
  show Ev D 1 mX6_workOut 0 [some (.ref (r)), some (.int (a)), some (.int (b)), some (.int (c)), some (.int (e)), none, none, none] [] h 0 0 post
  refine e_iconst (nI (0)) dX6_workOut_0 (by decide) ?_
  refine e_istore dX6_workOut_1 (by decide) ?_
  refine e_iconst (nI (0)) dX6_workOut_3 (by decide) ?_
  refine e_istore dX6_workOut_4 (by decide) ?_
  have ih9 := kl_work D hr hl50 hcd a b c e v hp tx.length 0 0 kf [] (by omega) trivial rfl (Nat.le_refl _) hv
  rw [set_self hr3] at ih9
  exact ih9
