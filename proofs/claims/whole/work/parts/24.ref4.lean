def doneR (q : Nat) (x y : Int32) : Int32 := if q = 20000 then b2 (¬ x = 0 ∨ ¬ y = 0) else if q = 20001 then b2 (¬ x = 0 ∧ ¬ y = 0) else if q = 20002 then b2 (x < y) else if q = 20003 then b2 (x = y) else if q = 20004 then b2 (y < x) else if q = 20005 then x + y else if q = 20006 then x - y else if q = 20007 then x * y else if q = 20008 then (if y = 0 then nI 0 else x / y) else (if y = 0 then nI 0 else x - x / y * y)
def heldR (x m : Int32) : Int32 := if nI 0 < (if x < m then x else m) then (if x < m then x else m) else nI 0
def pushV (a b c d : Int32) (q : Nat) : Int32 := if q < 10000 then nI q else if q = 10000 then a else if q = 10001 then b else if q = 10002 then c else d
/-- a text as codes, over a stack -/
def stk (a b c d : Int32) : List Nat → List Int32 → Option (List Int32)
  | [], s => some s
  | q :: qs, s => if q < 20000 then stk a b c d qs (pushV a b c d q :: s) else if q = 20010 then (match s with | x :: s' => stk a b c d qs ((if x = 0 then nI 1 else nI 0) :: s') | [] => none) else (match s with | y :: x :: s' => stk a b c d qs (doneR q x y :: s') | _ => none)
theorem stk_cons (a b c d : Int32) (q : Nat) (qs : List Nat) (s : List Int32) : stk a b c d (q :: qs) s = if q < 20000 then stk a b c d qs (pushV a b c d q :: s) else if q = 20010 then (match s with | x :: s' => stk a b c d qs ((if x = 0 then nI 1 else nI 0) :: s') | [] => none) else (match s with | y :: x :: s' => stk a b c d qs (doneR q x y :: s') | _ => none) := by
  conv => lhs; unfold stk
def valT (tx : List Nat) (a b c d : Int32) : Int32 := match stk a b c d tx [] with
  | some (v :: _) => v
  | _ => 0
/-- the pile holds the stack -/
def PS (p : Nat → Int32) : List Int32 → Prop
  | [] => True
  | x :: s => p s.length = x ∧ PS p s
theorem PS_upd {p : Nat → Int32} {s : List Int32} {n : Nat} (x : Int32) (h : PS p s) (hn : s.length ≤ n) : PS (upd p n x) s := by
  induction s with
  | nil => trivial
  | cons y s ih =>
    simp only [List.length_cons] at hn
    exact ⟨by rw [pk_un (by omega)]; exact h.1, ih h.2 (by omega)⟩
theorem PS_push {p : Nat → Int32} {s : List Int32} (x : Int32) (h : PS p s) : PS (upd p s.length x) (x :: s) := ⟨pk_us, PS_upd x h (Nat.le_refl _)⟩
theorem s_done (D : En) {h : AH} (q : Nat) (hq : 20000 ≤ q ∧ q ≤ 20009) (x y : Int32) : Sp D 0 mX12_done [.int (nI (q)), .int (x), .int (y)] h 0 0 (some (.int (doneR q x y))) (fun h' => h' = h) := by
  intro post hp
  show Ev D 0 mX12_done 0 [some (.int (nI (q))), some (.int (x)), some (.int (y))] [] h 0 0 post
  refine e_iload_n dX12_done_0 rfl ?_
  have hsp1 : q = 20000 ∨ q = 20001 ∨ q = 20002 ∨ q = 20003 ∨ q = 20004 ∨ q = 20005 ∨ q = 20006 ∨ q = 20007 ∨ q = 20008 ∨ q = 20009 := by omega
  rcases hsp1 with rfl | rfl | rfl | rfl | rfl | rfl | rfl | rfl | rfl | rfl
  · refine e_tableIn (off := 51) 52 dX12_done_1 (by decide) (by decide) (by decide) (by decide) ?_
    refine e_iload_n dX12_done_52 rfl ?_
    have K1 : Ev D 0 mX12_done 65 [some (.int (nI (20000))), some (.int (x)), some (.int (y))] [.int (b2 (¬ x = 0 ∨ ¬ y = 0))] h 0 0 post := by
      exact e_iret dX12_done_65 rfl (hp _ rfl)
    refine e_if_ne 60 dX12_done_53 (by decide) (fun hcq53 => ?_) (fun hcq53 => ?_)
    · refine e_iconst (nI (1)) dX12_done_60 (by decide) ?_
      refine e_goto 65 dX12_done_61 (by decide) ?_
      exact e_top (b2 (¬ x = 0 ∨ ¬ y = 0)) (by first | exact (b2_t (Or.inl hcq53)).symm | exact (b2_t (Or.inr hcq57)).symm | exact (b2_f (fun q => q.elim (fun z => z hcq53) (fun z => z hcq57))).symm) K1
    · refine e_iload_n dX12_done_56 rfl ?_
      refine e_if_eq 64 dX12_done_57 (by decide) (fun hcq57 => ?_) (fun hcq57 => ?_)
      · refine e_iconst (nI (0)) dX12_done_64 (by decide) ?_
        exact e_top (b2 (¬ x = 0 ∨ ¬ y = 0)) (by first | exact (b2_t (Or.inl hcq53)).symm | exact (b2_t (Or.inr hcq57)).symm | exact (b2_f (fun q => q.elim (fun z => z hcq53) (fun z => z hcq57))).symm) K1
      · refine e_iconst (nI (1)) dX12_done_60 (by decide) ?_
        refine e_goto 65 dX12_done_61 (by decide) ?_
        exact e_top (b2 (¬ x = 0 ∨ ¬ y = 0)) (by first | exact (b2_t (Or.inl hcq53)).symm | exact (b2_t (Or.inr hcq57)).symm | exact (b2_f (fun q => q.elim (fun z => z hcq53) (fun z => z hcq57))).symm) K1
  · refine e_tableIn (off := 65) 66 dX12_done_1 (by decide) (by decide) (by decide) (by decide) ?_
    refine e_iload_n dX12_done_66 rfl ?_
    have K2 : Ev D 0 mX12_done 79 [some (.int (nI (20001))), some (.int (x)), some (.int (y))] [.int (b2 (¬ x = 0 ∧ ¬ y = 0))] h 0 0 post := by
      exact e_iret dX12_done_79 rfl (hp _ rfl)
    refine e_if_eq 78 dX12_done_67 (by decide) (fun hcq67 => ?_) (fun hcq67 => ?_)
    · refine e_iconst (nI (0)) dX12_done_78 (by decide) ?_
      exact e_top (b2 (¬ x = 0 ∧ ¬ y = 0)) (by first | exact (b2_t (And.intro hcq67 hcq71)).symm | (refine (b2_f ?_).symm; intro z9; first | exact z9.1 hcq67 | exact z9.2 hcq71)) K2
    · refine e_iload_n dX12_done_70 rfl ?_
      refine e_if_eq 78 dX12_done_71 (by decide) (fun hcq71 => ?_) (fun hcq71 => ?_)
      · refine e_iconst (nI (0)) dX12_done_78 (by decide) ?_
        exact e_top (b2 (¬ x = 0 ∧ ¬ y = 0)) (by first | exact (b2_t (And.intro hcq67 hcq71)).symm | (refine (b2_f ?_).symm; intro z9; first | exact z9.1 hcq67 | exact z9.2 hcq71)) K2
      · refine e_iconst (nI (1)) dX12_done_74 (by decide) ?_
        refine e_goto 79 dX12_done_75 (by decide) ?_
        exact e_top (b2 (¬ x = 0 ∧ ¬ y = 0)) (by first | exact (b2_t (And.intro hcq67 hcq71)).symm | (refine (b2_f ?_).symm; intro z9; first | exact z9.1 hcq67 | exact z9.2 hcq71)) K2
  · refine e_tableIn (off := 79) 80 dX12_done_1 (by decide) (by decide) (by decide) (by decide) ?_
    refine e_iload_n dX12_done_80 rfl ?_
    refine e_iload_n dX12_done_81 rfl ?_
    have K3 : Ev D 0 mX12_done 90 [some (.int (nI (20002))), some (.int (x)), some (.int (y))] [.int (b2 (x < y))] h 0 0 post := by
      exact e_iret dX12_done_90 rfl (hp _ rfl)
    refine e_icmp_ge 89 dX12_done_82 (by decide) (fun hcq82 => ?_) (fun hcq82 => ?_)
    · refine e_iconst (nI (0)) dX12_done_89 (by decide) ?_
      exact e_top (b2 (x < y)) (by first | exact (b2_t (Int32.not_le.mp hcq82)).symm | exact (b2_f (Int32.not_lt.mpr hcq82)).symm) K3
    · refine e_iconst (nI (1)) dX12_done_85 (by decide) ?_
      refine e_goto 90 dX12_done_86 (by decide) ?_
      exact e_top (b2 (x < y)) (by first | exact (b2_t (Int32.not_le.mp hcq82)).symm | exact (b2_f (Int32.not_lt.mpr hcq82)).symm) K3
  · refine e_tableIn (off := 90) 91 dX12_done_1 (by decide) (by decide) (by decide) (by decide) ?_
    refine e_iload_n dX12_done_91 rfl ?_
    refine e_iload_n dX12_done_92 rfl ?_
    have K4 : Ev D 0 mX12_done 101 [some (.int (nI (20003))), some (.int (x)), some (.int (y))] [.int (b2 (x = y))] h 0 0 post := by
      exact e_iret dX12_done_101 rfl (hp _ rfl)
    refine e_icmp_ne 100 dX12_done_93 (by decide) (fun hcq93 => ?_) (fun hcq93 => ?_)
    · refine e_iconst (nI (0)) dX12_done_100 (by decide) ?_
      exact e_top (b2 (x = y)) (by first | exact (if_pos (by assumption)).symm | exact (if_neg (by assumption)).symm | exact (b2_t (by assumption)).symm | exact (b2_f (by assumption)).symm | simp_all [b2]) K4
    · refine e_iconst (nI (1)) dX12_done_96 (by decide) ?_
      refine e_goto 101 dX12_done_97 (by decide) ?_
      exact e_top (b2 (x = y)) (by first | exact (if_pos (by assumption)).symm | exact (if_neg (by assumption)).symm | exact (b2_t (by assumption)).symm | exact (b2_f (by assumption)).symm | simp_all [b2]) K4
  · refine e_tableIn (off := 101) 102 dX12_done_1 (by decide) (by decide) (by decide) (by decide) ?_
    refine e_iload_n dX12_done_102 rfl ?_
    refine e_iload_n dX12_done_103 rfl ?_
    have K5 : Ev D 0 mX12_done 112 [some (.int (nI (20004))), some (.int (x)), some (.int (y))] [.int (b2 (y < x))] h 0 0 post := by
      exact e_iret dX12_done_112 rfl (hp _ rfl)
    refine e_icmp_le 111 dX12_done_104 (by decide) (fun hcq104 => ?_) (fun hcq104 => ?_)
    · refine e_iconst (nI (0)) dX12_done_111 (by decide) ?_
      exact e_top (b2 (y < x)) (by first | exact (b2_t (Int32.not_le.mp hcq104)).symm | exact (b2_f (Int32.not_lt.mpr hcq104)).symm) K5
    · refine e_iconst (nI (1)) dX12_done_107 (by decide) ?_
      refine e_goto 112 dX12_done_108 (by decide) ?_
      exact e_top (b2 (y < x)) (by first | exact (b2_t (Int32.not_le.mp hcq104)).symm | exact (b2_f (Int32.not_lt.mpr hcq104)).symm) K5
  · refine e_tableIn (off := 112) 113 dX12_done_1 (by decide) (by decide) (by decide) (by decide) ?_
    refine e_iload_n dX12_done_113 rfl ?_
    refine e_iload_n dX12_done_114 rfl ?_
    refine e_iadd dX12_done_115 ?_
    exact e_iret dX12_done_116 rfl (hp _ rfl)
  · refine e_tableIn (off := 116) 117 dX12_done_1 (by decide) (by decide) (by decide) (by decide) ?_
    refine e_iload_n dX12_done_117 rfl ?_
    refine e_iload_n dX12_done_118 rfl ?_
    refine e_isub dX12_done_119 ?_
    exact e_iret dX12_done_120 rfl (hp _ rfl)
  · refine e_tableIn (off := 120) 121 dX12_done_1 (by decide) (by decide) (by decide) (by decide) ?_
    refine e_iload_n dX12_done_121 rfl ?_
    refine e_iload_n dX12_done_122 rfl ?_
    refine e_imul dX12_done_123 ?_
    exact e_iret dX12_done_124 rfl (hp _ rfl)
  · refine e_tableIn (off := 124) 125 dX12_done_1 (by decide) (by decide) (by decide) (by decide) ?_
    refine e_iload_n dX12_done_125 rfl ?_
    have K6 : Ev D 0 mX12_done 136 [some (.int (nI (20008))), some (.int (x)), some (.int (y))] [.int (if y = 0 then nI 0 else x / y)] h 0 0 post := by
      exact e_iret dX12_done_136 rfl (hp _ rfl)
    refine e_if_ne 133 dX12_done_126 (by decide) (fun hcq126 => ?_) (fun hcq126 => ?_)
    · refine e_iload_n dX12_done_133 rfl ?_
      refine e_iload_n dX12_done_134 rfl ?_
      refine e_idiv dX12_done_135 hcq126 ?_
      exact e_top ((if y = 0 then nI 0 else x / y)) (by first | exact (if_pos (by assumption)).symm | exact (if_neg (by assumption)).symm | exact (b2_t (by assumption)).symm | exact (b2_f (by assumption)).symm | simp_all [b2]) K6
    · refine e_iconst (nI (0)) dX12_done_129 (by decide) ?_
      refine e_goto 136 dX12_done_130 (by decide) ?_
      exact e_top ((if y = 0 then nI 0 else x / y)) (by first | exact (if_pos (by assumption)).symm | exact (if_neg (by assumption)).symm | exact (b2_t (by assumption)).symm | exact (b2_f (by assumption)).symm | simp_all [b2]) K6
  · refine e_tableOut 137 dX12_done_1 (by decide) (by decide) ?_
    refine e_iload_n dX12_done_137 rfl ?_
    have K7 : Ev D 0 mX12_done 148 [some (.int (nI (20009))), some (.int (x)), some (.int (y))] [.int (if y = 0 then nI 0 else x - x / y * y)] h 0 0 post := by
      exact e_iret dX12_done_148 rfl (hp _ rfl)
    refine e_if_ne 145 dX12_done_138 (by decide) (fun hcq138 => ?_) (fun hcq138 => ?_)
    · refine e_iload_n dX12_done_145 rfl ?_
      refine e_iload_n dX12_done_146 rfl ?_
      refine e_irem dX12_done_147 hcq138 ?_
      exact e_top ((if y = 0 then nI 0 else x - x / y * y)) (by first | exact (if_pos (by assumption)).symm | exact (if_neg (by assumption)).symm | exact (b2_t (by assumption)).symm | exact (b2_f (by assumption)).symm | simp_all [b2]) K7
    · refine e_iconst (nI (0)) dX12_done_141 (by decide) ?_
      refine e_goto 148 dX12_done_142 (by decide) ?_
      exact e_top ((if y = 0 then nI 0 else x - x / y * y)) (by first | exact (if_pos (by assumption)).symm | exact (if_neg (by assumption)).symm | exact (b2_t (by assumption)).symm | exact (b2_f (by assumption)).symm | simp_all [b2]) K7
theorem l_worked (D : En) {N : Nat → Int32} {σ : Nat → Nat → Int32} {τ : Nat → Int32} (fr len : Nat) (tx : List Nat) (hl50 : len ≤ 50) (hfr : 1 ≤ fr ∧ fr + len ≤ 408) (hlen : N (fr - 1) = nI len) (htx : tx.length = len) (hcd : ∀ i, i < len → N (fr + i) = nI (tx.getD i 0) ∧ tx.getD i 0 < 20011) (a b c d v : Int32) {h0 : AH} {post : Option Value → AH → Prop} (hp : ∀ h' p, RefAt h' N (va_up σ 8 p) τ → FrR h0 h' → post (some (.int v)) h') : ∀ (n : Nat) (i m : Nat) (h : AH) (p : Nat → Int32) (s : List Int32), (i + n = len) → (RefAt h N (va_up σ 8 p) τ) → (FrR h0 h) → (PS p s) → (m = s.length) → (m ≤ i) → (stk a b c d (tx.drop i) s = some [v]) → Ev D 1 mX12_worked 6 [some (.ref (82)), some (.int (nI (fr))), some (.int (a)), some (.int (b)), some (.int (c)), some (.int (d)), some (.int (nI (m))), some (.int (nI (fr + i))), none] [] h 0 0 post := by
  intro n
  induction n with
  | zero =>
    intro i m h p s hm hR hF hps hsl hmi hs
    rw [List.drop_eq_nil_of_le (by omega), stk] at hs
    cases hs
    have hv0 : p 0 = v := hps.1
    refine e_iload dX12_worked_6 rfl ?_
    refine e_iload_n dX12_worked_8 rfl ?_
    refine e_aload_n dX12_worked_9 rfl ?_
    refine e_get dX12_worked_10 fl_X12_9_12 hR.1 rfl ?_
    refine e_iload_n dX12_worked_13 rfl ?_
    refine e_iconst (nI (1)) dX12_worked_14 (by decide) ?_
    refine e_isubN dX12_worked_15 (by omega) ?_
    refine e_ild (fr - 1) (nI (len)) dX12_worked_16 hR.2.1 rfl (by omega) (by decide) hlen ?_
    refine e_iaddN dX12_worked_17 ?_
    refine e_icmp_geN 179 dX12_worked_18 (by decide) (by omega) (by omega) (fun hcq18 => ?_) (fun hcq18 => absurd hcq18 (by omega))
    refine e_aload_n dX12_worked_179 rfl ?_
    refine e_get dX12_worked_180 fl_X12_43_12 hR.1 rfl ?_
    refine e_iconst (nI (0)) dX12_worked_183 (by decide) ?_
    refine e_ild (0) ((v)) dX12_worked_184 (hR.2.2.1 8 (by decide) (by decide) (by decide)) rfl (by show _ < 60; omega) (by decide) (by rw [va_upS]; exact hv0) ?_
    exact e_iret dX12_worked_185 rfl (hp h p hR hF)
  | succ n ih =>
    intro i m h p s hm hR hF hps hsl hmi hs
    have hq1 := (hcd i (by omega)).1
    have hq2 := (hcd i (by omega)).2
    rw [List.drop_eq_getElem_cons (show i < tx.length by omega), show tx[i] = tx.getD i 0 from by simp [List.getD_eq_getElem?_getD, show i < tx.length by omega]] at hs
    generalize tx.getD i 0 = q at hs hq1 hq2
    refine e_iload dX12_worked_6 rfl ?_
    refine e_iload_n dX12_worked_8 rfl ?_
    refine e_aload_n dX12_worked_9 rfl ?_
    refine e_get dX12_worked_10 fl_X12_9_12 hR.1 rfl ?_
    refine e_iload_n dX12_worked_13 rfl ?_
    refine e_iconst (nI (1)) dX12_worked_14 (by decide) ?_
    refine e_isubN dX12_worked_15 (by omega) ?_
    refine e_ild (fr - 1) (nI (len)) dX12_worked_16 hR.2.1 rfl (by omega) (by decide) hlen ?_
    refine e_iaddN dX12_worked_17 ?_
    refine e_icmp_geN 179 dX12_worked_18 (by decide) (by omega) (by omega) (fun hcq18 => absurd hcq18 (by omega)) (fun hcq18 => ?_)
    refine e_aload_n dX12_worked_21 rfl ?_
    refine e_get dX12_worked_22 fl_X12_9_12 hR.1 rfl ?_
    refine e_iload dX12_worked_25 rfl ?_
    refine e_ild (fr + i) (nI (q)) dX12_worked_27 hR.2.1 rfl (by omega) (by decide) hq1 ?_
    refine e_istore dX12_worked_28 (by decide) ?_
    refine e_iload dX12_worked_30 rfl ?_
    refine e_sipush (nI (20000)) dX12_worked_32 (by decide) ?_
    refine e_icmp_geN 103 dX12_worked_35 (by decide) (by omega) (by omega) (fun hcq35 => ?_) (fun hcq35 => ?_)
    · refine e_iload dX12_worked_103 rfl ?_
      refine e_sipush (nI (20010)) dX12_worked_105 (by decide) ?_
      refine e_icmp_neN 140 dX12_worked_108 (by decide) (by omega) (by omega) (fun hcq108 => ?_) (fun hcq108 => ?_)
      · rw [stk_cons, if_neg (show ¬ q < 20000 by omega), if_neg hcq108] at hs
        obtain ⟨y, x, s', rfl⟩ : ∃ y x s', s = y :: x :: s' := by
          match s, hs with
          | [], hs => cases hs
          | [_], hs => cases hs
          | y :: x :: s', _ => exact ⟨y, x, s', rfl⟩
        simp only [List.length_cons] at hsl
        have hpy : p (m - 1) = y := by rw [show m - 1 = (x :: s').length by simp; omega]; exact hps.1
        have hpx : p (m - 1 - 1) = x := by rw [show m - 1 - 1 = s'.length by omega]; exact hps.2.1
        refine e_iincN (m - 1) dX12_worked_140 rfl (by decide) (sb_m1 (by omega)) ?_
        refine e_aload_n dX12_worked_143 rfl ?_
        refine e_get dX12_worked_144 fl_X12_43_12 hR.1 rfl ?_
        refine e_iload dX12_worked_147 rfl ?_
        refine e_iconst (nI (1)) dX12_worked_149 (by decide) ?_
        refine e_isubN dX12_worked_150 (by omega) ?_
        refine e_iload dX12_worked_151 rfl ?_
        refine e_aload_n dX12_worked_153 rfl ?_
        refine e_get dX12_worked_154 fl_X12_43_12 hR.1 rfl ?_
        refine e_iload dX12_worked_157 rfl ?_
        refine e_iconst (nI (1)) dX12_worked_159 (by decide) ?_
        refine e_isubN dX12_worked_160 (by omega) ?_
        refine e_ild ((m - 1) - 1) ((x)) dX12_worked_161 (hR.2.2.1 8 (by decide) (by decide) (by decide)) rfl (by show _ < 60; omega) (by decide) (by rw [va_upS]; exact hpx) ?_
        refine e_aload_n dX12_worked_162 rfl ?_
        refine e_get dX12_worked_163 fl_X12_43_12 hR.1 rfl ?_
        refine e_iload dX12_worked_166 rfl ?_
        refine e_ild (m - 1) ((y)) dX12_worked_168 (hR.2.2.1 8 (by decide) (by decide) (by decide)) rfl (by show _ < 60; omega) (by decide) (by rw [va_upS]; exact hpy) ?_
        refine c_S3iR (N := mX12_done) dX12_worked_169 ls_X12_228 mo_X12_done  (Nat.le_of_ble_eq_true rfl) (Nat.le_of_ble_eq_true rfl) (by decide) (s_done D (q) (by omega) ((x)) ((y))) ?_
        refine r_st 8 ((m - 1) - 1) dX12_worked_172 hR hF rfl (by decide) rfl (by show _ < 60; omega) (fun h hR hF => ?_)
        rw [bx_uu, va_upS] at hR
        refine e_iincN (fr + i + 1) dX12_worked_173 rfl (by decide) (nI_add _ _) ?_
        refine e_goto 6 dX12_worked_176 (by decide) ?_
        refine Ev.drop 8 ?_
        exact ih (i + 1) (m - 1) h (upd p (m - 1 - 1) (doneR q x y)) (doneR q x y :: s') (by omega) hR hF (by rw [show m - 1 - 1 = s'.length by omega]; exact PS_push _ hps.2.2) (by simp; omega) (by omega) hs
      · rw [stk_cons, if_neg (show ¬ q < 20000 by omega), if_pos hcq108] at hs
        obtain ⟨x, s', rfl⟩ : ∃ x s', s = x :: s' := by
          cases s with
          | nil => cases hs
          | cons x s' => exact ⟨x, s', rfl⟩
        simp only [List.length_cons] at hsl
        have hpx : p (m - 1) = x := by rw [show m - 1 = s'.length by omega]; exact hps.1
        refine e_aload_n dX12_worked_111 rfl ?_
        refine e_get dX12_worked_112 fl_X12_43_12 hR.1 rfl ?_
        refine e_iload dX12_worked_115 rfl ?_
        refine e_iconst (nI (1)) dX12_worked_117 (by decide) ?_
        refine e_isubN dX12_worked_118 (by omega) ?_
        refine e_aload_n dX12_worked_119 rfl ?_
        refine e_get dX12_worked_120 fl_X12_43_12 hR.1 rfl ?_
        refine e_iload dX12_worked_123 rfl ?_
        refine e_iconst (nI (1)) dX12_worked_125 (by decide) ?_
        refine e_isubN dX12_worked_126 (by omega) ?_
        refine e_ild (m - 1) ((x)) dX12_worked_127 (hR.2.2.1 8 (by decide) (by decide) (by decide)) rfl (by show _ < 60; omega) (by decide) (by rw [va_upS]; exact hpx) ?_
        have K1 : Ev D 1 mX12_worked 136 [some (.ref (82)), some (.int (nI (fr))), some (.int (a)), some (.int (b)), some (.int (c)), some (.int (d)), some (.int (nI (m))), some (.int (nI (fr + i))), some (.int (nI (q)))] [.int (if x = 0 then nI 1 else nI 0), .int (nI (m - 1)), .ref (91)] h 0 0 post := by
          refine r_st 8 (m - 1) dX12_worked_136 hR hF rfl (by decide) rfl (by show _ < 60; omega) (fun h hR hF => ?_)
          rw [bx_uu, va_upS] at hR
          refine e_goto 173 dX12_worked_137 (by decide) ?_
          refine e_iincN (fr + i + 1) dX12_worked_173 rfl (by decide) (nI_add _ _) ?_
          refine e_goto 6 dX12_worked_176 (by decide) ?_
          refine Ev.drop 8 ?_
          exact ih (i + 1) m h (upd p (m - 1) (if x = 0 then nI 1 else nI 0)) ((if x = 0 then nI 1 else nI 0) :: s') (by omega) hR hF (by rw [show m - 1 = s'.length by omega]; exact PS_push _ hps.2) (by simp; omega) (by omega) hs
        refine e_if_ne 135 dX12_worked_128 (by decide) (fun hcq128 => ?_) (fun hcq128 => ?_)
        · refine e_iconst (nI (0)) dX12_worked_135 (by decide) ?_
          exact e_top ((if x = 0 then nI 1 else nI 0)) (by first | exact (if_pos (by assumption)).symm | exact (if_neg (by assumption)).symm | exact (b2_t (by assumption)).symm | exact (b2_f (by assumption)).symm | simp_all [b2]) K1
        · refine e_iconst (nI (1)) dX12_worked_131 (by decide) ?_
          refine e_goto 136 dX12_worked_132 (by decide) ?_
          exact e_top ((if x = 0 then nI 1 else nI 0)) (by first | exact (if_pos (by assumption)).symm | exact (if_neg (by assumption)).symm | exact (b2_t (by assumption)).symm | exact (b2_f (by assumption)).symm | simp_all [b2]) K1
    · rw [stk_cons, if_pos hcq35] at hs
      refine e_aload_n dX12_worked_38 rfl ?_
      refine e_get dX12_worked_39 fl_X12_43_12 hR.1 rfl ?_
      refine e_iload dX12_worked_42 rfl ?_
      refine e_iload dX12_worked_44 rfl ?_
      refine e_sipush (nI (10000)) dX12_worked_46 (by decide) ?_
      have K2 : Ev D 1 mX12_worked 96 [some (.ref (82)), some (.int (nI (fr))), some (.int (a)), some (.int (b)), some (.int (c)), some (.int (d)), some (.int (nI (m))), some (.int (nI (fr + i))), some (.int (nI (q)))] [.int (pushV a b c d q), .int (nI (m)), .ref (91)] h 0 0 post := by
        refine r_st 8 (m) dX12_worked_96 hR hF rfl (by decide) rfl (by show _ < 60; omega) (fun h hR hF => ?_)
        rw [bx_uu, va_upS] at hR
        refine e_iincN (m + 1) dX12_worked_97 rfl (by decide) (nI_add _ _) ?_
        refine e_goto 173 dX12_worked_100 (by decide) ?_
        refine e_iincN (fr + i + 1) dX12_worked_173 rfl (by decide) (nI_add _ _) ?_
        refine e_goto 6 dX12_worked_176 (by decide) ?_
        refine Ev.drop 8 ?_
        exact ih (i + 1) (m + 1) h (upd p m (pushV a b c d q)) (pushV a b c d q :: s) (by omega) hR hF (by rw [hsl]; exact PS_push _ hps) (by simp [hsl]) (by omega) hs
      refine e_icmp_geN 57 dX12_worked_49 (by decide) (by omega) (by omega) (fun hcq49 => ?_) (fun hcq49 => ?_)
      · refine e_iload dX12_worked_57 rfl ?_
        refine e_sipush (nI (10000)) dX12_worked_59 (by decide) ?_
        refine e_icmp_neN 69 dX12_worked_62 (by decide) (by omega) (by omega) (fun hcq62 => ?_) (fun hcq62 => ?_)
        · refine e_iload dX12_worked_69 rfl ?_
          refine e_sipush (nI (10001)) dX12_worked_71 (by decide) ?_
          refine e_icmp_neN 81 dX12_worked_74 (by decide) (by omega) (by omega) (fun hcq74 => ?_) (fun hcq74 => ?_)
          · refine e_iload dX12_worked_81 rfl ?_
            refine e_sipush (nI (10002)) dX12_worked_83 (by decide) ?_
            refine e_icmp_neN 94 dX12_worked_86 (by decide) (by omega) (by omega) (fun hcq86 => ?_) (fun hcq86 => ?_)
            · refine e_iload dX12_worked_94 rfl ?_
              exact e_top ((pushV a b c d q)) (by unfold pushV; (repeat' split) <;> first | rfl | (exfalso; omega)) K2
            · refine e_iload dX12_worked_89 rfl ?_
              refine e_goto 96 dX12_worked_91 (by decide) ?_
              exact e_top ((pushV a b c d q)) (by unfold pushV; (repeat' split) <;> first | rfl | (exfalso; omega)) K2
          · refine e_iload_n dX12_worked_77 rfl ?_
            refine e_goto 96 dX12_worked_78 (by decide) ?_
            exact e_top ((pushV a b c d q)) (by unfold pushV; (repeat' split) <;> first | rfl | (exfalso; omega)) K2
        · refine e_iload_n dX12_worked_65 rfl ?_
          refine e_goto 96 dX12_worked_66 (by decide) ?_
          exact e_top ((pushV a b c d q)) (by unfold pushV; (repeat' split) <;> first | rfl | (exfalso; omega)) K2
      · refine e_iload dX12_worked_52 rfl ?_
        refine e_goto 96 dX12_worked_54 (by decide) ?_
        exact e_top ((pushV a b c d q)) (by unfold pushV; (repeat' split) <;> first | rfl | (exfalso; omega)) K2
theorem s_worked (D : En) {h : AH} {N : Nat → Int32} {σ : Nat → Nat → Int32} {τ : Nat → Int32} (hR : RefAt h N σ τ) (fr len : Nat) (tx : List Nat) (hl50 : len ≤ 50) (hfr : 1 ≤ fr ∧ fr + len ≤ 408) (hlen : N (fr - 1) = nI len) (htx : tx.length = len) (hcd : ∀ i, i < len → N (fr + i) = nI (tx.getD i 0) ∧ tx.getD i 0 < 20011) (a b c d v : Int32) (hv : stk a b c d tx [] = some [v]) : Sp D 1 mX12_worked [.ref (82), .int (nI (fr)), .int (a), .int (b), .int (c), .int (d)] h 0 0 (some (.int (v))) (fun h' => ∃ p, RefAt h' N (va_up σ 8 p) τ ∧ FrR h h') := by
  intro post hp
  show Ev D 1 mX12_worked 0 [some (.ref (82)), some (.int (nI (fr))), some (.int (a)), some (.int (b)), some (.int (c)), some (.int (d)), none, none, none] [] h 0 0 post
  refine e_iconst (nI (0)) dX12_worked_0 (by decide) ?_
  refine e_istore dX12_worked_1 (by decide) ?_
  refine e_iload_n dX12_worked_3 rfl ?_
  refine e_istore dX12_worked_4 (by decide) ?_
  exact l_worked D fr len tx hl50 hfr hlen htx hcd a b c d v (h0 := h) (fun h' p x y => hp h' ⟨p, x, y⟩) len 0 0 h (σ 8) [] (by omega) (by rw [upSelf]; exact hR) FrR.rf trivial rfl (Nat.le_refl _) hv
def TXW (N : Nat → Int32) (u : Nat) (tx : List Nat) : Prop := tx.length ≤ 50 ∧ N (252 + 52 * u) = nI tx.length ∧ (∀ i, i < tx.length → N (252 + 52 * u + 1 + i) = nI (tx.getD i 0) ∧ tx.getD i 0 < 20011) ∧ (tx = [] ∨ ∀ a b c d, ∃ v, stk a b c d tx [] = some [v])
def givenR (tx : List Nat) (u : Nat) (a b c d : Int32) : Int32 := if u = 0 then (if tx = [] then b2 (a < b) else b2 (¬ valT tx a b c d = 0)) else if u = 1 then heldR (if tx = [] then (nI 3 - a) * nI 4 - b else valT tx a b c d) (nI 100) else heldR (if tx = [] then nI 0 else valT tx a b c d) (nI 20)
set_option maxRecDepth 20000 in
theorem s_given0 (D : En) {h : AH} {N : Nat → Int32} {σ : Nat → Nat → Int32} {τ : Nat → Int32} (hR : RefAt h N σ τ) (u : Nat) (hu : u < 3) (tx : List Nat) (hX : TXW N u tx) (htx : tx = []) (a b c d : Int32) : Sp D 2 mX12_given [.ref (82), .int (nI (u)), .int (a), .int (b), .int (c), .int (d)] h 0 0 (some (.int (givenR tx u a b c d))) (fun h' => ∃ p, RefAt h' N (va_up σ 8 p) τ ∧ FrR h h') := by
  intro post hp
  show Ev D 2 mX12_given 0 [some (.ref (82)), some (.int (nI (u))), some (.int (a)), some (.int (b)), some (.int (c)), some (.int (d)), none, none, none] [] h 0 0 post
  have hF : FrR h h := FrR.rf
  have hX1 := hX.1
  refine e_sipush (nI (252)) dX12_given_0 (by decide) ?_
  refine e_bipush (nI (52)) dX12_given_3 (by decide) ?_
  refine e_iload_n dX12_given_5 rfl ?_
  refine e_imulN dX12_given_6 ?_
  refine e_iaddN dX12_given_7 ?_
  refine e_iconst (nI (1)) dX12_given_8 (by decide) ?_
  refine e_iaddN dX12_given_9 ?_
  refine e_istore dX12_given_10 (by decide) ?_
  refine e_aload_n dX12_given_12 rfl ?_
  refine e_get dX12_given_13 fl_X12_9_12 hR.1 rfl ?_
  refine e_iload dX12_given_16 rfl ?_
  refine e_iconst (nI (1)) dX12_given_18 (by decide) ?_
  refine e_isubN dX12_given_19 (by omega) ?_
  refine e_ild (((252 + (52 * u)) + 1) - 1) (nI (tx.length)) dX12_given_20 hR.2.1 rfl (by omega) (by decide) (by rw [show 252 + 52 * u + 1 - 1 = 252 + 52 * u by omega]; exact hX.2.1) ?_
  refine e_if_leN 28 dX12_given_21 (by decide) (by omega) (fun hcq21 => ?_) (fun hcq21 => absurd hcq21 (by rw [htx]; decide))
  refine e_iconst (nI (0)) dX12_given_28 (by decide) ?_
  refine e_istore dX12_given_29 (by decide) ?_
  refine e_iload dX12_given_31 rfl ?_
  refine e_if_eqN 51 dX12_given_33 (by decide) (by omega) (fun hcq33 => ?_) (fun hcq33 => absurd hcq33 (by decide))
  refine e_iconst (nI (0)) dX12_given_51 (by decide) ?_
  refine e_istore dX12_given_52 (by decide) ?_
  refine e_iload_n dX12_given_54 rfl ?_
  have hsp55 : u = 0 ∨ u = 1 ∨ u = 2 := by omega
  rcases hsp55 with rfl | rfl | rfl
  · refine e_lookup (off := 25) 80 dX12_given_55 (by decide) (by decide) (by decide) ?_
    refine e_iload dX12_given_80 rfl ?_
    refine e_if_eqN 93 dX12_given_82 (by decide) (by omega) (fun hcq82 => ?_) (fun hcq82 => absurd hcq82 (by decide))
    refine e_iload_n dX12_given_93 rfl ?_
    refine e_iload_n dX12_given_94 rfl ?_
    have K1 : Ev D 2 mX12_given 103 [some (.ref (82)), some (.int (nI (0))), some (.int (a)), some (.int (b)), some (.int (c)), some (.int (d)), some (.int (nI ((252 + (52 * 0)) + 1))), some (.int (nI (0))), some (.int (nI (0)))] [.int (b2 (a < b))] h 0 0 post := by
      exact e_iret dX12_given_103 rfl (by have e9 := hp _ ⟨σ 8, by rw [upSelf]; exact hR, FrR.rf⟩; simp only [givenR, htx, if_true] at e9; exact e9)
    refine e_icmp_ge 102 dX12_given_95 (by decide) (fun hcq95 => ?_) (fun hcq95 => ?_)
    · refine e_iconst (nI (0)) dX12_given_102 (by decide) ?_
      exact e_top (b2 (a < b)) (by first | exact (b2_t (Int32.not_le.mp hcq95)).symm | exact (b2_f (Int32.not_lt.mpr hcq95)).symm) K1
    · refine e_iconst (nI (1)) dX12_given_98 (by decide) ?_
      refine e_goto 103 dX12_given_99 (by decide) ?_
      exact e_top (b2 (a < b)) (by first | exact (b2_t (Int32.not_le.mp hcq95)).symm | exact (b2_f (Int32.not_lt.mpr hcq95)).symm) K1
  · refine e_lookup (off := 49) 104 dX12_given_55 (by decide) (by decide) (by decide) ?_
    refine e_iload dX12_given_104 rfl ?_
    refine e_if_eqN 114 dX12_given_106 (by decide) (by omega) (fun hcq106 => ?_) (fun hcq106 => absurd hcq106 (by decide))
    refine e_iconst (nI (3)) dX12_given_114 (by decide) ?_
    refine e_iload_n dX12_given_115 rfl ?_
    refine e_isub dX12_given_116 ?_
    refine e_iconst (nI (4)) dX12_given_117 (by decide) ?_
    refine e_imul dX12_given_118 ?_
    refine e_iload_n dX12_given_119 rfl ?_
    refine e_isub dX12_given_120 ?_
    refine e_bipush (nI (100)) dX12_given_121 (by decide) ?_
    refine c_S2iR (N := mX12_held) dX12_given_123 ls_X12_240 mo_X12_held  (Nat.le_of_ble_eq_true rfl) (Nat.le_of_ble_eq_true rfl) (by decide) (s_held D ((((nI (3) - (a)) * nI (4)) - (b))) (nI (100))) ?_
    exact e_iret dX12_given_126 rfl (by have e9 := hp _ ⟨σ 8, by rw [upSelf]; exact hR, FrR.rf⟩; simp only [givenR, htx, if_true] at e9; exact e9)
  · refine e_lookup (off := 72) 127 dX12_given_55 (by decide) (by decide) (by decide) ?_
    refine e_iload dX12_given_127 rfl ?_
    refine e_bipush (nI (20)) dX12_given_129 (by decide) ?_
    refine c_S2iR (N := mX12_held) dX12_given_131 ls_X12_240 mo_X12_held  (Nat.le_of_ble_eq_true rfl) (Nat.le_of_ble_eq_true rfl) (by decide) (s_held D (nI (0)) (nI (20))) ?_
    exact e_iret dX12_given_134 rfl (by have e9 := hp _ ⟨σ 8, by rw [upSelf]; exact hR, FrR.rf⟩; simp only [givenR, htx, if_true] at e9; exact e9)
set_option maxRecDepth 20000 in
theorem s_given1 (D : En) {h : AH} {N : Nat → Int32} {σ : Nat → Nat → Int32} {τ : Nat → Int32} (hR : RefAt h N σ τ) (u : Nat) (hu : u < 3) (tx : List Nat) (hX : TXW N u tx) (htx : ¬ tx = []) (a b c d : Int32) : Sp D 2 mX12_given [.ref (82), .int (nI (u)), .int (a), .int (b), .int (c), .int (d)] h 0 0 (some (.int (givenR tx u a b c d))) (fun h' => ∃ p, RefAt h' N (va_up σ 8 p) τ ∧ FrR h h') := by
  intro post hp
  show Ev D 2 mX12_given 0 [some (.ref (82)), some (.int (nI (u))), some (.int (a)), some (.int (b)), some (.int (c)), some (.int (d)), none, none, none] [] h 0 0 post
  have hF : FrR h h := FrR.rf
  have hX1 := hX.1
  obtain ⟨v, hv⟩ := hX.2.2.2.resolve_left htx a b c d
  refine e_sipush (nI (252)) dX12_given_0 (by decide) ?_
  refine e_bipush (nI (52)) dX12_given_3 (by decide) ?_
  refine e_iload_n dX12_given_5 rfl ?_
  refine e_imulN dX12_given_6 ?_
  refine e_iaddN dX12_given_7 ?_
  refine e_iconst (nI (1)) dX12_given_8 (by decide) ?_
  refine e_iaddN dX12_given_9 ?_
  refine e_istore dX12_given_10 (by decide) ?_
  refine e_aload_n dX12_given_12 rfl ?_
  refine e_get dX12_given_13 fl_X12_9_12 hR.1 rfl ?_
  refine e_iload dX12_given_16 rfl ?_
  refine e_iconst (nI (1)) dX12_given_18 (by decide) ?_
  refine e_isubN dX12_given_19 (by omega) ?_
  refine e_ild (((252 + (52 * u)) + 1) - 1) (nI (tx.length)) dX12_given_20 hR.2.1 rfl (by omega) (by decide) (by rw [show 252 + 52 * u + 1 - 1 = 252 + 52 * u by omega]; exact hX.2.1) ?_
  refine e_if_leN 28 dX12_given_21 (by decide) (by omega) (fun hcq21 => absurd hcq21 (by have := List.length_pos_iff.mpr htx; omega)) (fun hcq21 => ?_)
  refine e_iconst (nI (1)) dX12_given_24 (by decide) ?_
  refine e_goto 29 dX12_given_25 (by decide) ?_
  refine e_istore dX12_given_29 (by decide) ?_
  refine e_iload dX12_given_31 rfl ?_
  refine e_if_eqN 51 dX12_given_33 (by decide) (by omega) (fun hcq33 => absurd hcq33 (by decide)) (fun hcq33 => ?_)
  refine e_aload_n dX12_given_36 rfl ?_
  refine e_iload dX12_given_37 rfl ?_
  refine e_iload_n dX12_given_39 rfl ?_
  refine e_iload_n dX12_given_40 rfl ?_
  refine e_iload dX12_given_41 rfl ?_
  refine e_iload dX12_given_43 rfl ?_
  refine c_V5i (N := mX12_worked) dX12_given_45 lv_X12_237 mo_X12_worked hR.cn (Nat.le_of_ble_eq_true rfl) (Nat.le_of_ble_eq_true rfl) (by decide) (s_worked D hR (252 + 52 * u + 1) tx.length tx hX.1 (by have := hX.1; omega) (by rw [show 252 + 52 * u + 1 - 1 = 252 + 52 * u by omega]; exact hX.2.1) rfl hX.2.2.1 a b c d v hv) (fun h hP => ?_)
  obtain ⟨p, hR, hF1⟩ := hP
  have hF := hF.trans hF1
  refine e_goto 52 dX12_given_48 (by decide) ?_
  refine e_istore dX12_given_52 (by decide) ?_
  refine e_iload_n dX12_given_54 rfl ?_
  have hsp55 : u = 0 ∨ u = 1 ∨ u = 2 := by omega
  rcases hsp55 with rfl | rfl | rfl
  · refine e_lookup (off := 25) 80 dX12_given_55 (by decide) (by decide) (by decide) ?_
    refine e_iload dX12_given_80 rfl ?_
    refine e_if_eqN 93 dX12_given_82 (by decide) (by omega) (fun hcq82 => absurd hcq82 (by decide)) (fun hcq82 => ?_)
    refine e_iload dX12_given_85 rfl ?_
    have K1 : Ev D 2 mX12_given 103 [some (.ref (82)), some (.int (nI (0))), some (.int (a)), some (.int (b)), some (.int (c)), some (.int (d)), some (.int (nI ((252 + (52 * 0)) + 1))), some (.int (nI (1))), some (.int (v))] [.int (b2 (¬ v = 0))] h 0 0 post := by
      exact e_iret dX12_given_103 rfl (by have e9 := hp _ ⟨p, hR, hF⟩; simp only [givenR, valT, hv, htx, if_false, if_true] at e9; exact e9)
    refine e_if_eq 102 dX12_given_87 (by decide) (fun hcq87 => ?_) (fun hcq87 => ?_)
    · refine e_iconst (nI (0)) dX12_given_102 (by decide) ?_
      exact e_top (b2 (¬ v = 0)) (by first | exact (b2_t hcq87).symm | exact (b2_f (fun z => z hcq87)).symm) K1
    · refine e_goto 98 dX12_given_90 (by decide) ?_
      refine e_iconst (nI (1)) dX12_given_98 (by decide) ?_
      refine e_goto 103 dX12_given_99 (by decide) ?_
      exact e_top (b2 (¬ v = 0)) (by first | exact (b2_t hcq87).symm | exact (b2_f (fun z => z hcq87)).symm) K1
  · refine e_lookup (off := 49) 104 dX12_given_55 (by decide) (by decide) (by decide) ?_
    refine e_iload dX12_given_104 rfl ?_
    refine e_if_eqN 114 dX12_given_106 (by decide) (by omega) (fun hcq106 => absurd hcq106 (by decide)) (fun hcq106 => ?_)
    refine e_iload dX12_given_109 rfl ?_
    refine e_goto 121 dX12_given_111 (by decide) ?_
    refine e_bipush (nI (100)) dX12_given_121 (by decide) ?_
    refine c_S2iR (N := mX12_held) dX12_given_123 ls_X12_240 mo_X12_held  (Nat.le_of_ble_eq_true rfl) (Nat.le_of_ble_eq_true rfl) (by decide) (s_held D ((v)) (nI (100))) ?_
    exact e_iret dX12_given_126 rfl (by have e9 := hp _ ⟨p, hR, hF⟩; simp only [givenR, valT, hv, htx, if_false, if_true] at e9; exact e9)
  · refine e_lookup (off := 72) 127 dX12_given_55 (by decide) (by decide) (by decide) ?_
    refine e_iload dX12_given_127 rfl ?_
    refine e_bipush (nI (20)) dX12_given_129 (by decide) ?_
    refine c_S2iR (N := mX12_held) dX12_given_131 ls_X12_240 mo_X12_held  (Nat.le_of_ble_eq_true rfl) (Nat.le_of_ble_eq_true rfl) (by decide) (s_held D ((v)) (nI (20))) ?_
    exact e_iret dX12_given_134 rfl (by have e9 := hp _ ⟨p, hR, hF⟩; simp only [givenR, valT, hv, htx, if_false, if_true] at e9; exact e9)
theorem s_given (D : En) {h : AH} {N : Nat → Int32} {σ : Nat → Nat → Int32} {τ : Nat → Int32} (hR : RefAt h N σ τ) (u : Nat) (hu : u < 3) (tx : List Nat) (hX : TXW N u tx) (a b c d : Int32) : Sp D 2 mX12_given [.ref 82, .int (nI u), .int a, .int b, .int c, .int d] h 0 0 (some (.int (givenR tx u a b c d))) (fun h' => ∃ p, RefAt h' N (va_up σ 8 p) τ ∧ FrR h h') := by
  by_cases htx : tx = []
  · exact s_given0 D hR u hu tx hX htx a b c d
  · exact s_given1 D hR u hu tx hX htx a b c d
