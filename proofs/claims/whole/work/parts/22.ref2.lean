abbrev servR (N : Nat → Int32) (k : Nat) (r : Int32) (a v : Nat) : Prop := wayR N a v ≤ (if nI k = nI 5 then nI 2 * r else r)
def termR (N : Nat → Int32) (k : Nat) (r : Int32) (a v : Nat) : Int32 := if k = 1 ∨ k = 5 then (if servR N k r a v then N (16 + 4 * v + 1 + 0) else nI 0) else if k = 2 ∨ k = 3 then (if servR N k r a v then allR N v else nI 0) else (if servR N k r a v ∧ ¬ v = a then N (16 + 4 * v + 1 + 1) + N (16 + 4 * v + 1 + 2) else nI 0)
def startR (N : Nat → Int32) (k a : Nat) : Int32 := if k = 0 ∨ k = 6 then allR N a else if k = 3 then -N (16 + 4 * a + 1 + 1) else nI 0
def usersR (N : Nat → Int32) (nv k : Nat) (r : Int32) (a : Nat) : Int32 := startR N k a + sumF (termR N k r a) (if k = 0 then 0 else nv)
theorem l_users (D : En) {h : AH} {N : Nat → Int32} {σ : Nat → Nat → Int32} {τ : Nat → Int32} (hR : RefAt h N σ τ) {nv : Nat} (hvc : N 1 = nI nv) (hnv : nv ≤ 8) (k : Nat) (hk : k < 7) (hk0 : ¬ k = 0) (r : Int32) (a : Nat) (ha : a < 8) {post : Option Value → AH → Prop} (hp : ∀ h', h' = h → post (some (.int (startR N k a + sumF (termR N k r a) nv))) h') : ∀ (n : Nat) (v : Nat) (s : Int32), (v + n = nv) → (s = startR N k a + sumF (termR N k r a) v) → Ev D 3 mX12_usersOf 39 [some (.ref (82)), some (.int (nI (k))), some (.int (r)), some (.int (nI (a))), some (.int (s)), some (.int (nI (v))), none] [] h 0 0 post := by
  intro n
  induction n with
  | zero =>
    intro v s hm hs
    refine e_iload dX12_usersOf_39 rfl ?_
    refine e_aload_n dX12_usersOf_41 rfl ?_
    refine e_get dX12_usersOf_42 fl_X12_9_12 hR.1 rfl ?_
    refine e_iconst (nI (1)) dX12_usersOf_45 (by decide) ?_
    refine e_ild (1) (nI (nv)) dX12_usersOf_46 hR.2.1 rfl (by omega) (by decide) hvc ?_
    refine e_icmp_geN 188 dX12_usersOf_47 (by decide) (by omega) (by omega) (fun hcq47 => ?_) (fun hcq47 => absurd hcq47 (by omega))
    refine e_iload dX12_usersOf_188 rfl ?_
    exact e_iret dX12_usersOf_190 rfl (by have e9 := hp _ rfl; rw [show v = nv by omega] at hs; rw [hs]; exact e9)
  | succ n ih =>
    intro v s hm hs
    refine e_iload dX12_usersOf_39 rfl ?_
    refine e_aload_n dX12_usersOf_41 rfl ?_
    refine e_get dX12_usersOf_42 fl_X12_9_12 hR.1 rfl ?_
    refine e_iconst (nI (1)) dX12_usersOf_45 (by decide) ?_
    refine e_ild (1) (nI (nv)) dX12_usersOf_46 hR.2.1 rfl (by omega) (by decide) hvc ?_
    refine e_icmp_geN 188 dX12_usersOf_47 (by decide) (by omega) (by omega) (fun hcq47 => absurd hcq47 (by omega)) (fun hcq47 => ?_)
    refine e_iload_n dX12_usersOf_50 rfl ?_
    refine e_if_eqN 188 dX12_usersOf_51 (by decide) (by omega) (fun hcq51 => absurd hcq51 hk0) (fun hcq51 => ?_)
    refine e_aload_n dX12_usersOf_54 rfl ?_
    refine e_iload_n dX12_usersOf_55 rfl ?_
    refine e_iload_n dX12_usersOf_56 rfl ?_
    refine e_iload_n dX12_usersOf_57 rfl ?_
    refine e_iload dX12_usersOf_58 rfl ?_
    refine c_V4iR (N := mX12_serves) dX12_usersOf_60 lv_X12_143 mo_X12_serves hR.cn (Nat.le_of_ble_eq_true rfl) (Nat.le_of_ble_eq_true rfl) (by decide) (s_serves D hR (nI (k)) ((r)) (a) (v) (by omega) (by omega)) ?_
    refine e_istore dX12_usersOf_63 (by decide) ?_
    refine e_iload_n dX12_usersOf_65 rfl ?_
    have hsp66 : k = 1 ∨ k = 2 ∨ k = 3 ∨ k = 4 ∨ k = 5 ∨ k = 6 := by omega
    rcases hsp66 with rfl | rfl | rfl | rfl | rfl | rfl
    · refine e_tableIn (off := 34) 100 dX12_usersOf_66 (by decide) (by decide) (by decide) (by decide) ?_
      refine e_iload dX12_usersOf_100 rfl ?_
      refine e_iload dX12_usersOf_102 rfl ?_
      have K1 : Ev D 3 mX12_usersOf 118 [some (.ref (82)), some (.int (nI (1))), some (.int (r)), some (.int (nI (a))), some (.int (s)), some (.int (nI (v))), some (.int (b2 (wayR N a v ≤ (if nI (1) = nI 5 then nI 2 * (r) else (r)))))] [.int (if wayR N a v ≤ (if nI (1) = nI 5 then nI 2 * (r) else (r)) then N (16 + 4 * v + 1 + 0) else nI 0), .int (s)] h 0 0 post := by
        refine e_iadd dX12_usersOf_118 ?_
        refine e_istore dX12_usersOf_119 (by decide) ?_
        refine e_goto 182 dX12_usersOf_121 (by decide) ?_
        refine e_iincN (v + 1) dX12_usersOf_182 rfl (by decide) (nI_add _ _) ?_
        refine e_goto 39 dX12_usersOf_185 (by decide) ?_
        refine Ev.drop 6 ?_
        exact ih (v + 1) ((s) + (if wayR N a v ≤ (if nI (1) = nI 5 then nI 2 * (r) else (r)) then N (16 + 4 * v + 1 + 0) else nI 0)) (by omega) (by rw [hs, sumF, ← Int32.add_assoc]; congr 1)
      refine e_if_eqB 117 dX12_usersOf_104 (by decide) (fun hcq104 => ?_) (fun hcq104 => ?_)
      · refine e_iconst (nI (0)) dX12_usersOf_117 (by decide) ?_
        exact e_top ((if wayR N a v ≤ (if nI (1) = nI 5 then nI 2 * (r) else (r)) then N (16 + 4 * v + 1 + 0) else nI 0)) (by first | exact (if_pos (by assumption)).symm | exact (if_neg (by assumption)).symm | exact (b2_t (by assumption)).symm | exact (b2_f (by assumption)).symm | simp_all [b2]) K1
      · refine e_aload_n dX12_usersOf_107 rfl ?_
        refine e_iload dX12_usersOf_108 rfl ?_
        refine e_iconst (nI (0)) dX12_usersOf_110 (by decide) ?_
        refine c_V2iR (N := mX12_of) dX12_usersOf_111 lv_X12_99 mo_X12_of hR.cn (Nat.le_of_ble_eq_true rfl) (Nat.le_of_ble_eq_true rfl) (by decide) (s_of D hR (v) (0) (by omega) (by omega)) ?_
        refine e_goto 118 dX12_usersOf_114 (by decide) ?_
        exact e_top ((if wayR N a v ≤ (if nI (1) = nI 5 then nI 2 * (r) else (r)) then N (16 + 4 * v + 1 + 0) else nI 0)) (by first | exact (if_pos (by assumption)).symm | exact (if_neg (by assumption)).symm | exact (b2_t (by assumption)).symm | exact (b2_f (by assumption)).symm | simp_all [b2]) K1
    · refine e_tableIn (off := 58) 124 dX12_usersOf_66 (by decide) (by decide) (by decide) (by decide) ?_
      refine e_iload dX12_usersOf_124 rfl ?_
      refine e_iload dX12_usersOf_126 rfl ?_
      have K2 : Ev D 3 mX12_usersOf 141 [some (.ref (82)), some (.int (nI (2))), some (.int (r)), some (.int (nI (a))), some (.int (s)), some (.int (nI (v))), some (.int (b2 (wayR N a v ≤ (if nI (2) = nI 5 then nI 2 * (r) else (r)))))] [.int (if wayR N a v ≤ (if nI (2) = nI 5 then nI 2 * (r) else (r)) then allR N v else nI 0), .int (s)] h 0 0 post := by
        refine e_iadd dX12_usersOf_141 ?_
        refine e_istore dX12_usersOf_142 (by decide) ?_
        refine e_goto 182 dX12_usersOf_144 (by decide) ?_
        refine e_iincN (v + 1) dX12_usersOf_182 rfl (by decide) (nI_add _ _) ?_
        refine e_goto 39 dX12_usersOf_185 (by decide) ?_
        refine Ev.drop 6 ?_
        exact ih (v + 1) ((s) + (if wayR N a v ≤ (if nI (2) = nI 5 then nI 2 * (r) else (r)) then allR N v else nI 0)) (by omega) (by rw [hs, sumF, ← Int32.add_assoc]; congr 1)
      refine e_if_eqB 140 dX12_usersOf_128 (by decide) (fun hcq128 => ?_) (fun hcq128 => ?_)
      · refine e_iconst (nI (0)) dX12_usersOf_140 (by decide) ?_
        exact e_top ((if wayR N a v ≤ (if nI (2) = nI 5 then nI 2 * (r) else (r)) then allR N v else nI 0)) (by first | exact (if_pos (by assumption)).symm | exact (if_neg (by assumption)).symm | exact (b2_t (by assumption)).symm | exact (b2_f (by assumption)).symm | simp_all [b2]) K2
      · refine e_aload_n dX12_usersOf_131 rfl ?_
        refine e_iload dX12_usersOf_132 rfl ?_
        refine c_V1iR (N := mX12_allOf) dX12_usersOf_134 lv_X12_107 mo_X12_allOf hR.cn (Nat.le_of_ble_eq_true rfl) (Nat.le_of_ble_eq_true rfl) (by decide) (s_allOf D hR (v) (by omega)) ?_
        refine e_goto 141 dX12_usersOf_137 (by decide) ?_
        exact e_top ((if wayR N a v ≤ (if nI (2) = nI 5 then nI 2 * (r) else (r)) then allR N v else nI 0)) (by first | exact (if_pos (by assumption)).symm | exact (if_neg (by assumption)).symm | exact (b2_t (by assumption)).symm | exact (b2_f (by assumption)).symm | simp_all [b2]) K2
    · refine e_tableIn (off := 58) 124 dX12_usersOf_66 (by decide) (by decide) (by decide) (by decide) ?_
      refine e_iload dX12_usersOf_124 rfl ?_
      refine e_iload dX12_usersOf_126 rfl ?_
      have K3 : Ev D 3 mX12_usersOf 141 [some (.ref (82)), some (.int (nI (3))), some (.int (r)), some (.int (nI (a))), some (.int (s)), some (.int (nI (v))), some (.int (b2 (wayR N a v ≤ (if nI (3) = nI 5 then nI 2 * (r) else (r)))))] [.int (if wayR N a v ≤ (if nI (3) = nI 5 then nI 2 * (r) else (r)) then allR N v else nI 0), .int (s)] h 0 0 post := by
        refine e_iadd dX12_usersOf_141 ?_
        refine e_istore dX12_usersOf_142 (by decide) ?_
        refine e_goto 182 dX12_usersOf_144 (by decide) ?_
        refine e_iincN (v + 1) dX12_usersOf_182 rfl (by decide) (nI_add _ _) ?_
        refine e_goto 39 dX12_usersOf_185 (by decide) ?_
        refine Ev.drop 6 ?_
        exact ih (v + 1) ((s) + (if wayR N a v ≤ (if nI (3) = nI 5 then nI 2 * (r) else (r)) then allR N v else nI 0)) (by omega) (by rw [hs, sumF, ← Int32.add_assoc]; congr 1)
      refine e_if_eqB 140 dX12_usersOf_128 (by decide) (fun hcq128 => ?_) (fun hcq128 => ?_)
      · refine e_iconst (nI (0)) dX12_usersOf_140 (by decide) ?_
        exact e_top ((if wayR N a v ≤ (if nI (3) = nI 5 then nI 2 * (r) else (r)) then allR N v else nI 0)) (by first | exact (if_pos (by assumption)).symm | exact (if_neg (by assumption)).symm | exact (b2_t (by assumption)).symm | exact (b2_f (by assumption)).symm | simp_all [b2]) K3
      · refine e_aload_n dX12_usersOf_131 rfl ?_
        refine e_iload dX12_usersOf_132 rfl ?_
        refine c_V1iR (N := mX12_allOf) dX12_usersOf_134 lv_X12_107 mo_X12_allOf hR.cn (Nat.le_of_ble_eq_true rfl) (Nat.le_of_ble_eq_true rfl) (by decide) (s_allOf D hR (v) (by omega)) ?_
        refine e_goto 141 dX12_usersOf_137 (by decide) ?_
        exact e_top ((if wayR N a v ≤ (if nI (3) = nI 5 then nI 2 * (r) else (r)) then allR N v else nI 0)) (by first | exact (if_pos (by assumption)).symm | exact (if_neg (by assumption)).symm | exact (b2_t (by assumption)).symm | exact (b2_f (by assumption)).symm | simp_all [b2]) K3
    · refine e_tableIn (off := 81) 147 dX12_usersOf_66 (by decide) (by decide) (by decide) (by decide) ?_
      refine e_iload dX12_usersOf_147 rfl ?_
      refine e_iload dX12_usersOf_149 rfl ?_
      have K4 : Ev D 3 mX12_usersOf 179 [some (.ref (82)), some (.int (nI (4))), some (.int (r)), some (.int (nI (a))), some (.int (s)), some (.int (nI (v))), some (.int (b2 (wayR N a v ≤ (if nI (4) = nI 5 then nI 2 * (r) else (r)))))] [.int (if wayR N a v ≤ (if nI (4) = nI 5 then nI 2 * (r) else (r)) ∧ ¬ v = a then N (16 + 4 * v + 1 + 1) + N (16 + 4 * v + 1 + 2) else nI 0), .int (s)] h 0 0 post := by
        refine e_iadd dX12_usersOf_179 ?_
        refine e_istore dX12_usersOf_180 (by decide) ?_
        refine e_iincN (v + 1) dX12_usersOf_182 rfl (by decide) (nI_add _ _) ?_
        refine e_goto 39 dX12_usersOf_185 (by decide) ?_
        refine Ev.drop 6 ?_
        exact ih (v + 1) ((s) + (if wayR N a v ≤ (if nI (4) = nI 5 then nI 2 * (r) else (r)) ∧ ¬ v = a then N (16 + 4 * v + 1 + 1) + N (16 + 4 * v + 1 + 2) else nI 0)) (by omega) (by rw [hs, sumF, ← Int32.add_assoc]; congr 1)
      refine e_if_eqB 178 dX12_usersOf_151 (by decide) (fun hcq151 => ?_) (fun hcq151 => ?_)
      · refine e_iconst (nI (0)) dX12_usersOf_178 (by decide) ?_
        exact e_top ((if wayR N a v ≤ (if nI (4) = nI 5 then nI 2 * (r) else (r)) ∧ ¬ v = a then N (16 + 4 * v + 1 + 1) + N (16 + 4 * v + 1 + 2) else nI 0)) (by first | exact (if_pos ⟨hcq151, hcq157⟩).symm | exact (if_neg (fun q => hcq151 q.1)).symm | exact (if_neg (fun q => q.2 hcq157)).symm) K4
      · refine e_iload dX12_usersOf_154 rfl ?_
        refine e_iload_n dX12_usersOf_156 rfl ?_
        refine e_icmp_eqN 178 dX12_usersOf_157 (by decide) (by omega) (by omega) (fun hcq157 => ?_) (fun hcq157 => ?_)
        · refine e_iconst (nI (0)) dX12_usersOf_178 (by decide) ?_
          exact e_top ((if wayR N a v ≤ (if nI (4) = nI 5 then nI 2 * (r) else (r)) ∧ ¬ v = a then N (16 + 4 * v + 1 + 1) + N (16 + 4 * v + 1 + 2) else nI 0)) (by first | exact (if_pos ⟨hcq151, hcq157⟩).symm | exact (if_neg (fun q => hcq151 q.1)).symm | exact (if_neg (fun q => q.2 hcq157)).symm) K4
        · refine e_aload_n dX12_usersOf_160 rfl ?_
          refine e_iload dX12_usersOf_161 rfl ?_
          refine e_iconst (nI (1)) dX12_usersOf_163 (by decide) ?_
          refine c_V2iR (N := mX12_of) dX12_usersOf_164 lv_X12_99 mo_X12_of hR.cn (Nat.le_of_ble_eq_true rfl) (Nat.le_of_ble_eq_true rfl) (by decide) (s_of D hR (v) (1) (by omega) (by omega)) ?_
          refine e_aload_n dX12_usersOf_167 rfl ?_
          refine e_iload dX12_usersOf_168 rfl ?_
          refine e_iconst (nI (2)) dX12_usersOf_170 (by decide) ?_
          refine c_V2iR (N := mX12_of) dX12_usersOf_171 lv_X12_99 mo_X12_of hR.cn (Nat.le_of_ble_eq_true rfl) (Nat.le_of_ble_eq_true rfl) (by decide) (s_of D hR (v) (2) (by omega) (by omega)) ?_
          refine e_iadd dX12_usersOf_174 ?_
          refine e_goto 179 dX12_usersOf_175 (by decide) ?_
          exact e_top ((if wayR N a v ≤ (if nI (4) = nI 5 then nI 2 * (r) else (r)) ∧ ¬ v = a then N (16 + 4 * v + 1 + 1) + N (16 + 4 * v + 1 + 2) else nI 0)) (by first | exact (if_pos ⟨hcq151, hcq157⟩).symm | exact (if_neg (fun q => hcq151 q.1)).symm | exact (if_neg (fun q => q.2 hcq157)).symm) K4
    · refine e_tableIn (off := 34) 100 dX12_usersOf_66 (by decide) (by decide) (by decide) (by decide) ?_
      refine e_iload dX12_usersOf_100 rfl ?_
      refine e_iload dX12_usersOf_102 rfl ?_
      have K5 : Ev D 3 mX12_usersOf 118 [some (.ref (82)), some (.int (nI (5))), some (.int (r)), some (.int (nI (a))), some (.int (s)), some (.int (nI (v))), some (.int (b2 (wayR N a v ≤ (if nI (5) = nI 5 then nI 2 * (r) else (r)))))] [.int (if wayR N a v ≤ (if nI (5) = nI 5 then nI 2 * (r) else (r)) then N (16 + 4 * v + 1 + 0) else nI 0), .int (s)] h 0 0 post := by
        refine e_iadd dX12_usersOf_118 ?_
        refine e_istore dX12_usersOf_119 (by decide) ?_
        refine e_goto 182 dX12_usersOf_121 (by decide) ?_
        refine e_iincN (v + 1) dX12_usersOf_182 rfl (by decide) (nI_add _ _) ?_
        refine e_goto 39 dX12_usersOf_185 (by decide) ?_
        refine Ev.drop 6 ?_
        exact ih (v + 1) ((s) + (if wayR N a v ≤ (if nI (5) = nI 5 then nI 2 * (r) else (r)) then N (16 + 4 * v + 1 + 0) else nI 0)) (by omega) (by rw [hs, sumF, ← Int32.add_assoc]; congr 1)
      refine e_if_eqB 117 dX12_usersOf_104 (by decide) (fun hcq104 => ?_) (fun hcq104 => ?_)
      · refine e_iconst (nI (0)) dX12_usersOf_117 (by decide) ?_
        exact e_top ((if wayR N a v ≤ (if nI (5) = nI 5 then nI 2 * (r) else (r)) then N (16 + 4 * v + 1 + 0) else nI 0)) (by first | exact (if_pos (by assumption)).symm | exact (if_neg (by assumption)).symm | exact (b2_t (by assumption)).symm | exact (b2_f (by assumption)).symm | simp_all [b2]) K5
      · refine e_aload_n dX12_usersOf_107 rfl ?_
        refine e_iload dX12_usersOf_108 rfl ?_
        refine e_iconst (nI (0)) dX12_usersOf_110 (by decide) ?_
        refine c_V2iR (N := mX12_of) dX12_usersOf_111 lv_X12_99 mo_X12_of hR.cn (Nat.le_of_ble_eq_true rfl) (Nat.le_of_ble_eq_true rfl) (by decide) (s_of D hR (v) (0) (by omega) (by omega)) ?_
        refine e_goto 118 dX12_usersOf_114 (by decide) ?_
        exact e_top ((if wayR N a v ≤ (if nI (5) = nI 5 then nI 2 * (r) else (r)) then N (16 + 4 * v + 1 + 0) else nI 0)) (by first | exact (if_pos (by assumption)).symm | exact (if_neg (by assumption)).symm | exact (b2_t (by assumption)).symm | exact (b2_f (by assumption)).symm | simp_all [b2]) K5
    · refine e_tableOut 147 dX12_usersOf_66 (by decide) (by decide) ?_
      refine e_iload dX12_usersOf_147 rfl ?_
      refine e_iload dX12_usersOf_149 rfl ?_
      have K6 : Ev D 3 mX12_usersOf 179 [some (.ref (82)), some (.int (nI (6))), some (.int (r)), some (.int (nI (a))), some (.int (s)), some (.int (nI (v))), some (.int (b2 (wayR N a v ≤ (if nI (6) = nI 5 then nI 2 * (r) else (r)))))] [.int (if wayR N a v ≤ (if nI (6) = nI 5 then nI 2 * (r) else (r)) ∧ ¬ v = a then N (16 + 4 * v + 1 + 1) + N (16 + 4 * v + 1 + 2) else nI 0), .int (s)] h 0 0 post := by
        refine e_iadd dX12_usersOf_179 ?_
        refine e_istore dX12_usersOf_180 (by decide) ?_
        refine e_iincN (v + 1) dX12_usersOf_182 rfl (by decide) (nI_add _ _) ?_
        refine e_goto 39 dX12_usersOf_185 (by decide) ?_
        refine Ev.drop 6 ?_
        exact ih (v + 1) ((s) + (if wayR N a v ≤ (if nI (6) = nI 5 then nI 2 * (r) else (r)) ∧ ¬ v = a then N (16 + 4 * v + 1 + 1) + N (16 + 4 * v + 1 + 2) else nI 0)) (by omega) (by rw [hs, sumF, ← Int32.add_assoc]; congr 1)
      refine e_if_eqB 178 dX12_usersOf_151 (by decide) (fun hcq151 => ?_) (fun hcq151 => ?_)
      · refine e_iconst (nI (0)) dX12_usersOf_178 (by decide) ?_
        exact e_top ((if wayR N a v ≤ (if nI (6) = nI 5 then nI 2 * (r) else (r)) ∧ ¬ v = a then N (16 + 4 * v + 1 + 1) + N (16 + 4 * v + 1 + 2) else nI 0)) (by first | exact (if_pos ⟨hcq151, hcq157⟩).symm | exact (if_neg (fun q => hcq151 q.1)).symm | exact (if_neg (fun q => q.2 hcq157)).symm) K6
      · refine e_iload dX12_usersOf_154 rfl ?_
        refine e_iload_n dX12_usersOf_156 rfl ?_
        refine e_icmp_eqN 178 dX12_usersOf_157 (by decide) (by omega) (by omega) (fun hcq157 => ?_) (fun hcq157 => ?_)
        · refine e_iconst (nI (0)) dX12_usersOf_178 (by decide) ?_
          exact e_top ((if wayR N a v ≤ (if nI (6) = nI 5 then nI 2 * (r) else (r)) ∧ ¬ v = a then N (16 + 4 * v + 1 + 1) + N (16 + 4 * v + 1 + 2) else nI 0)) (by first | exact (if_pos ⟨hcq151, hcq157⟩).symm | exact (if_neg (fun q => hcq151 q.1)).symm | exact (if_neg (fun q => q.2 hcq157)).symm) K6
        · refine e_aload_n dX12_usersOf_160 rfl ?_
          refine e_iload dX12_usersOf_161 rfl ?_
          refine e_iconst (nI (1)) dX12_usersOf_163 (by decide) ?_
          refine c_V2iR (N := mX12_of) dX12_usersOf_164 lv_X12_99 mo_X12_of hR.cn (Nat.le_of_ble_eq_true rfl) (Nat.le_of_ble_eq_true rfl) (by decide) (s_of D hR (v) (1) (by omega) (by omega)) ?_
          refine e_aload_n dX12_usersOf_167 rfl ?_
          refine e_iload dX12_usersOf_168 rfl ?_
          refine e_iconst (nI (2)) dX12_usersOf_170 (by decide) ?_
          refine c_V2iR (N := mX12_of) dX12_usersOf_171 lv_X12_99 mo_X12_of hR.cn (Nat.le_of_ble_eq_true rfl) (Nat.le_of_ble_eq_true rfl) (by decide) (s_of D hR (v) (2) (by omega) (by omega)) ?_
          refine e_iadd dX12_usersOf_174 ?_
          refine e_goto 179 dX12_usersOf_175 (by decide) ?_
          exact e_top ((if wayR N a v ≤ (if nI (6) = nI 5 then nI 2 * (r) else (r)) ∧ ¬ v = a then N (16 + 4 * v + 1 + 1) + N (16 + 4 * v + 1 + 2) else nI 0)) (by first | exact (if_pos ⟨hcq151, hcq157⟩).symm | exact (if_neg (fun q => hcq151 q.1)).symm | exact (if_neg (fun q => q.2 hcq157)).symm) K6
theorem s_usersOf (D : En) {h : AH} {N : Nat → Int32} {σ : Nat → Nat → Int32} {τ : Nat → Int32} (hR : RefAt h N σ τ) {nv : Nat} (hvc : N 1 = nI nv) (hnv : nv ≤ 8) (k : Nat) (hk : k < 7) (r : Int32) (a : Nat) (ha : a < 8) : Sp D 3 mX12_usersOf [.ref (82), .int (nI (k)), .int (r), .int (nI (a))] h 0 0 (some (.int (usersR N nv k r a))) (fun h' => h' = h) := by
  intro post hp
  show Ev D 3 mX12_usersOf 0 [some (.ref (82)), some (.int (nI (k))), some (.int (r)), some (.int (nI (a))), none, none, none] [] h 0 0 post
  refine e_iload_n dX12_usersOf_0 rfl ?_
  have K1 : Ev D 3 mX12_usersOf 34 [some (.ref (82)), some (.int (nI (k))), some (.int (r)), some (.int (nI (a))), none, none, none] [.int (startR N k a)] h 0 0 post := by
    refine e_istore dX12_usersOf_34 (by decide) ?_
    refine e_iconst (nI (0)) dX12_usersOf_36 (by decide) ?_
    refine e_istore dX12_usersOf_37 (by decide) ?_
    rcases Nat.eq_zero_or_pos k with hk0 | hk0
    · subst hk0
      refine e_iload dX12_usersOf_39 rfl ?_
      refine e_aload_n dX12_usersOf_41 rfl ?_
      refine e_get dX12_usersOf_42 fl_X12_9_12 hR.1 rfl ?_
      refine e_iconst (nI (1)) dX12_usersOf_45 (by decide) ?_
      refine e_ild (1) (nI (nv)) dX12_usersOf_46 hR.2.1 rfl (by omega) (by decide) hvc ?_
      refine e_icmp_geN 188 dX12_usersOf_47 (by decide) (by omega) (by omega) (fun hcq47 => ?_) (fun hcq47 => ?_)
      · refine e_iload dX12_usersOf_188 rfl ?_
        exact e_iret dX12_usersOf_190 rfl (by have e9 := hp _ rfl; unfold usersR at e9; rw [if_pos rfl, sumF, Int32.add_zero] at e9; exact e9)
      · refine e_iload_n dX12_usersOf_50 rfl ?_
        refine e_if_eqN 188 dX12_usersOf_51 (by decide) (by omega) (fun hcq51 => ?_) (fun hcq51 => absurd rfl hcq51)
        refine e_iload dX12_usersOf_188 rfl ?_
        exact e_iret dX12_usersOf_190 rfl (by have e9 := hp _ rfl; unfold usersR at e9; rw [if_pos rfl, sumF, Int32.add_zero] at e9; exact e9)
    · exact l_users D hR hvc hnv k hk (by omega) r a ha (fun h' e => by have e9 := hp h' e; unfold usersR at e9; rw [if_neg (by omega)] at e9; exact e9) nv 0 (startR N k a) (by omega) (by rw [sumF, Int32.add_zero])
  refine e_if_eqN 10 dX12_usersOf_1 (by decide) (by omega) (fun hcq1 => ?_) (fun hcq1 => ?_)
  · refine e_aload_n dX12_usersOf_10 rfl ?_
    refine e_iload_n dX12_usersOf_11 rfl ?_
    refine c_V1iR (N := mX12_allOf) dX12_usersOf_12 lv_X12_107 mo_X12_allOf hR.cn (Nat.le_of_ble_eq_true rfl) (Nat.le_of_ble_eq_true rfl) (by decide) (s_allOf D hR (a) (by omega)) ?_
    refine e_goto 34 dX12_usersOf_15 (by decide) ?_
    exact e_top ((startR N k a)) (by unfold startR; first | rw [if_pos (Or.inl (by assumption))] | rw [if_pos (Or.inr (by assumption))] | rw [if_neg (by omega), if_pos (by assumption)] | rw [if_neg (by omega), if_neg (by assumption)]) K1
  · refine e_iload_n dX12_usersOf_4 rfl ?_
    refine e_bipush (nI (6)) dX12_usersOf_5 (by decide) ?_
    refine e_icmp_neN 18 dX12_usersOf_7 (by decide) (by omega) (by omega) (fun hcq7 => ?_) (fun hcq7 => ?_)
    · refine e_iload_n dX12_usersOf_18 rfl ?_
      refine e_iconst (nI (3)) dX12_usersOf_19 (by decide) ?_
      refine e_icmp_neN 33 dX12_usersOf_20 (by decide) (by omega) (by omega) (fun hcq20 => ?_) (fun hcq20 => ?_)
      · refine e_iconst (nI (0)) dX12_usersOf_33 (by decide) ?_
        exact e_top ((startR N k a)) (by unfold startR; first | rw [if_pos (Or.inl (by assumption))] | rw [if_pos (Or.inr (by assumption))] | rw [if_neg (by omega), if_pos (by assumption)] | rw [if_neg (by omega), if_neg (by assumption)]) K1
      · refine e_aload_n dX12_usersOf_23 rfl ?_
        refine e_iload_n dX12_usersOf_24 rfl ?_
        refine e_iconst (nI (1)) dX12_usersOf_25 (by decide) ?_
        refine c_V2iR (N := mX12_of) dX12_usersOf_26 lv_X12_99 mo_X12_of hR.cn (Nat.le_of_ble_eq_true rfl) (Nat.le_of_ble_eq_true rfl) (by decide) (s_of D hR (a) (1) (by omega) (by omega)) ?_
        refine e_ineg dX12_usersOf_29 ?_
        refine e_goto 34 dX12_usersOf_30 (by decide) ?_
        exact e_top ((startR N k a)) (by unfold startR; first | rw [if_pos (Or.inl (by assumption))] | rw [if_pos (Or.inr (by assumption))] | rw [if_neg (by omega), if_pos (by assumption)] | rw [if_neg (by omega), if_neg (by assumption)]) K1
    · refine e_aload_n dX12_usersOf_10 rfl ?_
      refine e_iload_n dX12_usersOf_11 rfl ?_
      refine c_V1iR (N := mX12_allOf) dX12_usersOf_12 lv_X12_107 mo_X12_allOf hR.cn (Nat.le_of_ble_eq_true rfl) (Nat.le_of_ble_eq_true rfl) (by decide) (s_allOf D hR (a) (by omega)) ?_
      refine e_goto 34 dX12_usersOf_15 (by decide) ?_
      exact e_top ((startR N k a)) (by unfold startR; first | rw [if_pos (Or.inl (by assumption))] | rw [if_pos (Or.inr (by assumption))] | rw [if_neg (by omega), if_pos (by assumption)] | rw [if_neg (by omega), if_neg (by assumption)]) K1
def kdN (N : Nat → Int32) (t : Nat) : Nat := (N (112 + 7 * t + 0)).toNatClampNeg
def atN (N : Nat → Int32) (t : Nat) : Nat := (N (112 + 7 * t + 1)).toNatClampNeg
/-- a thing's kind and village are such -/
def TW (N : Nat → Int32) (t : Nat) : Prop := N (112 + 7 * t + 0) = nI (kdN N t) ∧ kdN N t < 7 ∧ N (112 + 7 * t + 1) = nI (atN N t) ∧ atN N t < 8
def bitF (P : Nat → Prop) [DecidablePred P] (v : Nat) : Int32 := if P v then nI 1 <<< (nI v &&& 31) else nI 0
def servedR (N : Nat → Int32) (nv t : Nat) : Int32 := orF (fun v => if servR N (kdN N t) (N (112 + 7 * t + 4)) (atN N t) v then nI 1 <<< (nI v &&& 31) else nI 0) nv
theorem l_served (D : En) {h : AH} {N : Nat → Int32} {σ : Nat → Nat → Int32} {τ : Nat → Int32} (hR : RefAt h N σ τ) {nv : Nat} (hvc : N 1 = nI nv) (hnv : nv ≤ 8) (t : Nat) (ht : t < 10) (hW : TW N t) {post : Option Value → AH → Prop} (hp : ∀ h', h' = h → post (some (.int (servedR N nv t))) h') : ∀ (n : Nat) (v : Nat) (s : Int32), (v + n = nv) → (s = orF (fun v => if servR N (kdN N t) (N (112 + 7 * t + 4)) (atN N t) v then nI 1 <<< (nI v &&& 31) else nI 0) v) → Ev D 3 mX12_servedBy 4 [some (.ref (82)), some (.int (nI (t))), some (.int (s)), some (.int (nI (v)))] [] h 0 0 post := by
  intro n
  induction n with
  | zero =>
    intro v s hm hs
    refine e_iload_n dX12_servedBy_4 rfl ?_
    refine e_aload_n dX12_servedBy_5 rfl ?_
    refine e_get dX12_servedBy_6 fl_X12_9_12 hR.1 rfl ?_
    refine e_iconst (nI (1)) dX12_servedBy_9 (by decide) ?_
    refine e_ild (1) (nI (nv)) dX12_servedBy_10 hR.2.1 rfl (by omega) (by decide) hvc ?_
    refine e_icmp_geN 56 dX12_servedBy_11 (by decide) (by omega) (by omega) (fun hcq11 => ?_) (fun hcq11 => absurd hcq11 (by omega))
    refine e_iload_n dX12_servedBy_56 rfl ?_
    exact e_iret dX12_servedBy_57 rfl (by have e9 := hp _ rfl; unfold servedR at e9; rw [show v = nv by omega] at hs; rw [hs]; exact e9)
  | succ n ih =>
    intro v s hm hs
    have hk9 := hW.2.1
    have ha9 := hW.2.2.2
    refine e_iload_n dX12_servedBy_4 rfl ?_
    refine e_aload_n dX12_servedBy_5 rfl ?_
    refine e_get dX12_servedBy_6 fl_X12_9_12 hR.1 rfl ?_
    refine e_iconst (nI (1)) dX12_servedBy_9 (by decide) ?_
    refine e_ild (1) (nI (nv)) dX12_servedBy_10 hR.2.1 rfl (by omega) (by decide) hvc ?_
    refine e_icmp_geN 56 dX12_servedBy_11 (by decide) (by omega) (by omega) (fun hcq11 => absurd hcq11 (by omega)) (fun hcq11 => ?_)
    refine e_iload_n dX12_servedBy_14 rfl ?_
    refine e_aload_n dX12_servedBy_15 rfl ?_
    refine e_aload_n dX12_servedBy_16 rfl ?_
    refine e_iload_n dX12_servedBy_17 rfl ?_
    refine e_iconst (nI (0)) dX12_servedBy_18 (by decide) ?_
    refine c_V2iR (N := mX12_thing) dX12_servedBy_19 lv_X12_136 mo_X12_thing hR.cn (Nat.le_of_ble_eq_true rfl) (Nat.le_of_ble_eq_true rfl) (by decide) (s_thing D hR (t) (0) (by omega) (by omega)) ?_
    refine e_top (nI (kdN N t)) (hW.1) ?_
    refine e_aload_n dX12_servedBy_22 rfl ?_
    refine e_iload_n dX12_servedBy_23 rfl ?_
    refine e_iconst (nI (4)) dX12_servedBy_24 (by decide) ?_
    refine c_V2iR (N := mX12_thing) dX12_servedBy_25 lv_X12_136 mo_X12_thing hR.cn (Nat.le_of_ble_eq_true rfl) (Nat.le_of_ble_eq_true rfl) (by decide) (s_thing D hR (t) (4) (by omega) (by omega)) ?_
    refine e_aload_n dX12_servedBy_28 rfl ?_
    refine e_iload_n dX12_servedBy_29 rfl ?_
    refine e_iconst (nI (1)) dX12_servedBy_30 (by decide) ?_
    refine c_V2iR (N := mX12_thing) dX12_servedBy_31 lv_X12_136 mo_X12_thing hR.cn (Nat.le_of_ble_eq_true rfl) (Nat.le_of_ble_eq_true rfl) (by decide) (s_thing D hR (t) (1) (by omega) (by omega)) ?_
    refine e_top (nI (atN N t)) (hW.2.2.1) ?_
    refine e_iload_n dX12_servedBy_34 rfl ?_
    refine c_V4iR (N := mX12_serves) dX12_servedBy_35 lv_X12_143 mo_X12_serves hR.cn (Nat.le_of_ble_eq_true rfl) (Nat.le_of_ble_eq_true rfl) (by decide) (s_serves D hR (nI (kdN N t)) ((N (112 + 7 * t + 4))) (atN N t) (v) (by omega) (by omega)) ?_
    have K1 : Ev D 3 mX12_servedBy 48 [some (.ref (82)), some (.int (nI (t))), some (.int (s)), some (.int (nI (v)))] [.int (if wayR N (atN N t) v ≤ (if nI (kdN N t) = nI 5 then nI 2 * (N (112 + 7 * t + 4)) else (N (112 + 7 * t + 4))) then nI 1 <<< (nI v &&& 31) else nI 0), .int (s)] h 0 0 post := by
      refine e_ior dX12_servedBy_48 ?_
      refine e_istore_n dX12_servedBy_49 (by decide) ?_
      refine e_iincN (v + 1) dX12_servedBy_50 rfl (by decide) (nI_add _ _) ?_
      refine e_goto 4 dX12_servedBy_53 (by decide) ?_
      exact ih (v + 1) ((s) ||| (if wayR N (atN N t) v ≤ (if nI (kdN N t) = nI 5 then nI 2 * (N (112 + 7 * t + 4)) else (N (112 + 7 * t + 4))) then nI 1 <<< (nI v &&& 31) else nI 0)) (by omega) (by rw [hs, orF])
    refine e_if_eqB 47 dX12_servedBy_38 (by decide) (fun hcq38 => ?_) (fun hcq38 => ?_)
    · refine e_iconst (nI (0)) dX12_servedBy_47 (by decide) ?_
      exact e_top ((if wayR N (atN N t) v ≤ (if nI (kdN N t) = nI 5 then nI 2 * (N (112 + 7 * t + 4)) else (N (112 + 7 * t + 4))) then nI 1 <<< (nI v &&& 31) else nI 0)) (by first | exact (if_pos (by assumption)).symm | exact (if_neg (by assumption)).symm | exact (b2_t (by assumption)).symm | exact (b2_f (by assumption)).symm | simp_all [b2]) K1
    · refine e_iconst (nI (1)) dX12_servedBy_41 (by decide) ?_
      refine e_iload_n dX12_servedBy_42 rfl ?_
      refine e_ishl dX12_servedBy_43 ?_
      refine e_goto 48 dX12_servedBy_44 (by decide) ?_
      exact e_top ((if wayR N (atN N t) v ≤ (if nI (kdN N t) = nI 5 then nI 2 * (N (112 + 7 * t + 4)) else (N (112 + 7 * t + 4))) then nI 1 <<< (nI v &&& 31) else nI 0)) (by first | exact (if_pos (by assumption)).symm | exact (if_neg (by assumption)).symm | exact (b2_t (by assumption)).symm | exact (b2_f (by assumption)).symm | simp_all [b2]) K1
theorem s_servedBy (D : En) {h : AH} {N : Nat → Int32} {σ : Nat → Nat → Int32} {τ : Nat → Int32} (hR : RefAt h N σ τ) {nv : Nat} (hvc : N 1 = nI nv) (hnv : nv ≤ 8) (t : Nat) (ht : t < 10) (hW : TW N t) : Sp D 3 mX12_servedBy [.ref (82), .int (nI (t))] h 0 0 (some (.int (servedR N nv t))) (fun h' => h' = h) := by
  intro post hp
  show Ev D 3 mX12_servedBy 0 [some (.ref (82)), some (.int (nI (t))), none, none] [] h 0 0 post
  refine e_iconst (nI (0)) dX12_servedBy_0 (by decide) ?_
  refine e_istore_n dX12_servedBy_1 (by decide) ?_
  refine e_iconst (nI (0)) dX12_servedBy_2 (by decide) ?_
  refine e_istore_n dX12_servedBy_3 (by decide) ?_
  exact l_served D hR hvc hnv t ht hW hp nv 0 _ (by omega) rfl
theorem l_people (D : En) {h : AH} {N : Nat → Int32} {σ : Nat → Nat → Int32} {τ : Nat → Int32} (hR : RefAt h N σ τ) {nv : Nat} (hvc : N 1 = nI nv) (hnv : nv ≤ 8) {post : Option Value → AH → Prop} (hp : ∀ h', h' = h → post (some (.int (sumF (allR N) nv))) h') : ∀ (n : Nat) (v : Nat) (s : Int32), (v + n = nv) → (s = sumF (allR N) v) → Ev D 2 mX12_people_ 4 [some (.ref (82)), some (.int (s)), some (.int (nI (v)))] [] h 0 0 post := by
  intro n
  induction n with
  | zero =>
    intro v s hm hs
    refine e_iload_n dX12_people__4 rfl ?_
    refine e_aload_n dX12_people__5 rfl ?_
    refine e_get dX12_people__6 fl_X12_9_12 hR.1 rfl ?_
    refine e_iconst (nI (1)) dX12_people__9 (by decide) ?_
    refine e_ild (1) (nI (nv)) dX12_people__10 hR.2.1 rfl (by omega) (by decide) hvc ?_
    refine e_icmp_geN 28 dX12_people__11 (by decide) (by omega) (by omega) (fun hcq11 => ?_) (fun hcq11 => absurd hcq11 (by omega))
    refine e_iload_n dX12_people__28 rfl ?_
    exact e_iret dX12_people__29 rfl (by have e9 := hp _ rfl; rw [show v = nv by omega] at hs; rw [hs]; exact e9)
  | succ n ih =>
    intro v s hm hs
    refine e_iload_n dX12_people__4 rfl ?_
    refine e_aload_n dX12_people__5 rfl ?_
    refine e_get dX12_people__6 fl_X12_9_12 hR.1 rfl ?_
    refine e_iconst (nI (1)) dX12_people__9 (by decide) ?_
    refine e_ild (1) (nI (nv)) dX12_people__10 hR.2.1 rfl (by omega) (by decide) hvc ?_
    refine e_icmp_geN 28 dX12_people__11 (by decide) (by omega) (by omega) (fun hcq11 => absurd hcq11 (by omega)) (fun hcq11 => ?_)
    refine e_iload_n dX12_people__14 rfl ?_
    refine e_aload_n dX12_people__15 rfl ?_
    refine e_iload_n dX12_people__16 rfl ?_
    refine c_V1iR (N := mX12_allOf) dX12_people__17 lv_X12_107 mo_X12_allOf hR.cn (Nat.le_of_ble_eq_true rfl) (Nat.le_of_ble_eq_true rfl) (by decide) (s_allOf D hR (v) (by omega)) ?_
    refine e_iadd dX12_people__20 ?_
    refine e_istore_n dX12_people__21 (by decide) ?_
    refine e_iincN (v + 1) dX12_people__22 rfl (by decide) (nI_add _ _) ?_
    refine e_goto 4 dX12_people__25 (by decide) ?_
    exact ih (v + 1) ((s) + (allR N v)) (by omega) (by rw [hs, sumF])
theorem s_people_ (D : En) {h : AH} {N : Nat → Int32} {σ : Nat → Nat → Int32} {τ : Nat → Int32} (hR : RefAt h N σ τ) {nv : Nat} (hvc : N 1 = nI nv) (hnv : nv ≤ 8) : Sp D 2 mX12_people_ [.ref (82)] h 0 0 (some (.int (sumF (allR N) nv))) (fun h' => h' = h) := by
  intro post hp
  show Ev D 2 mX12_people_ 0 [some (.ref (82)), none, none] [] h 0 0 post
  refine e_iconst (nI (0)) dX12_people__0 (by decide) ?_
  refine e_istore_n dX12_people__1 (by decide) ?_
  refine e_iconst (nI (0)) dX12_people__2 (by decide) ?_
  refine e_istore_n dX12_people__3 (by decide) ?_
  exact l_people D hR hvc hnv hp nv 0 _ (by omega) rfl
def openR (N : Nat → Int32) (t : Nat) : Int32 := if N (112 + 7 * t + 5) = nI 1 then nI 1 <<< (nI t &&& 31) else nI 0
theorem l_openOnes (D : En) {h : AH} {N : Nat → Int32} {σ : Nat → Nat → Int32} {τ : Nat → Int32} (hR : RefAt h N σ τ) {tc : Nat} (htc : N 2 = nI tc) (htc10 : tc ≤ 10) {post : Option Value → AH → Prop} (hp : ∀ h', h' = h → post (some (.int (orF (openR N) tc))) h') : ∀ (n : Nat) (t : Nat) (s : Int32), (t + n = tc) → (s = orF (openR N) t) → Ev D 2 mX12_openOnes 4 [some (.ref (82)), some (.int (s)), some (.int (nI (t)))] [] h 0 0 post := by
  intro n
  induction n with
  | zero =>
    intro t s hm hs
    refine e_iload_n dX12_openOnes_4 rfl ?_
    refine e_aload_n dX12_openOnes_5 rfl ?_
    refine e_get dX12_openOnes_6 fl_X12_9_12 hR.1 rfl ?_
    refine e_iconst (nI (2)) dX12_openOnes_9 (by decide) ?_
    refine e_ild (2) (nI (tc)) dX12_openOnes_10 hR.2.1 rfl (by omega) (by decide) htc ?_
    refine e_icmp_geN 38 dX12_openOnes_11 (by decide) (by omega) (by omega) (fun hcq11 => ?_) (fun hcq11 => absurd hcq11 (by omega))
    refine e_iload_n dX12_openOnes_38 rfl ?_
    exact e_iret dX12_openOnes_39 rfl (by have e9 := hp _ rfl; rw [show t = tc by omega] at hs; rw [hs]; exact e9)
  | succ n ih =>
    intro t s hm hs
    refine e_iload_n dX12_openOnes_4 rfl ?_
    refine e_aload_n dX12_openOnes_5 rfl ?_
    refine e_get dX12_openOnes_6 fl_X12_9_12 hR.1 rfl ?_
    refine e_iconst (nI (2)) dX12_openOnes_9 (by decide) ?_
    refine e_ild (2) (nI (tc)) dX12_openOnes_10 hR.2.1 rfl (by omega) (by decide) htc ?_
    refine e_icmp_geN 38 dX12_openOnes_11 (by decide) (by omega) (by omega) (fun hcq11 => absurd hcq11 (by omega)) (fun hcq11 => ?_)
    refine e_iload_n dX12_openOnes_14 rfl ?_
    refine e_aload_n dX12_openOnes_15 rfl ?_
    refine e_iload_n dX12_openOnes_16 rfl ?_
    refine c_V1iR (N := mX12_isOpen) dX12_openOnes_17 lv_X12_158 mo_X12_isOpen hR.cn (Nat.le_of_ble_eq_true rfl) (Nat.le_of_ble_eq_true rfl) (by decide) (s_isOpen D hR (t) (by omega)) ?_
    have K1 : Ev D 2 mX12_openOnes 30 [some (.ref (82)), some (.int (s)), some (.int (nI (t)))] [.int (if N (112 + 7 * t + 5) = nI 1 then nI 1 <<< (nI t &&& 31) else nI 0), .int (s)] h 0 0 post := by
      refine e_ior dX12_openOnes_30 ?_
      refine e_istore_n dX12_openOnes_31 (by decide) ?_
      refine e_iincN (t + 1) dX12_openOnes_32 rfl (by decide) (nI_add _ _) ?_
      refine e_goto 4 dX12_openOnes_35 (by decide) ?_
      exact ih (t + 1) ((s) ||| (if N (112 + 7 * t + 5) = nI 1 then nI 1 <<< (nI t &&& 31) else nI 0)) (by omega) (by rw [hs, orF]; rfl)
    refine e_if_eqB 29 dX12_openOnes_20 (by decide) (fun hcq20 => ?_) (fun hcq20 => ?_)
    · refine e_iconst (nI (0)) dX12_openOnes_29 (by decide) ?_
      exact e_top ((if N (112 + 7 * t + 5) = nI 1 then nI 1 <<< (nI t &&& 31) else nI 0)) (by first | exact (if_pos (by assumption)).symm | exact (if_neg (by assumption)).symm | exact (b2_t (by assumption)).symm | exact (b2_f (by assumption)).symm | simp_all [b2]) K1
    · refine e_iconst (nI (1)) dX12_openOnes_23 (by decide) ?_
      refine e_iload_n dX12_openOnes_24 rfl ?_
      refine e_ishl dX12_openOnes_25 ?_
      refine e_goto 30 dX12_openOnes_26 (by decide) ?_
      exact e_top ((if N (112 + 7 * t + 5) = nI 1 then nI 1 <<< (nI t &&& 31) else nI 0)) (by first | exact (if_pos (by assumption)).symm | exact (if_neg (by assumption)).symm | exact (b2_t (by assumption)).symm | exact (b2_f (by assumption)).symm | simp_all [b2]) K1
theorem s_openOnes (D : En) {h : AH} {N : Nat → Int32} {σ : Nat → Nat → Int32} {τ : Nat → Int32} (hR : RefAt h N σ τ) {tc : Nat} (htc : N 2 = nI tc) (htc10 : tc ≤ 10) : Sp D 2 mX12_openOnes [.ref (82)] h 0 0 (some (.int (orF (openR N) tc))) (fun h' => h' = h) := by
  intro post hp
  show Ev D 2 mX12_openOnes 0 [some (.ref (82)), none, none] [] h 0 0 post
  refine e_iconst (nI (0)) dX12_openOnes_0 (by decide) ?_
  refine e_istore_n dX12_openOnes_1 (by decide) ?_
  refine e_iconst (nI (0)) dX12_openOnes_2 (by decide) ?_
  refine e_istore_n dX12_openOnes_3 (by decide) ?_
  exact l_openOnes D hR htc htc10 hp tc 0 _ (by omega) rfl
/-- the first of the most, by a walk from 0 on: (best, most) -/
def siteW (f : Nat → Int32) : Nat → Nat × Int32
  | 0 => (0, -1)
  | n + 1 => if (siteW f n).2 < f n then (n, f n) else siteW f n
theorem siteW_le (f : Nat → Int32) (n : Nat) : (siteW f n).1 ≤ n := by
  induction n with
  | zero => exact Nat.le_refl _
  | succ n ih =>
    rw [siteW]
    split
    · exact Nat.le_succ n
    · exact Nat.le_succ_of_le ih
theorem l_site (D : En) {h : AH} {N : Nat → Int32} {σ : Nat → Nat → Int32} {τ : Nat → Int32} (hR : RefAt h N σ τ) {nv : Nat} (hvc : N 1 = nI nv) (hnv : nv ≤ 8) (t : Nat) (ht : t < 10) (hW : TW N t) {post : Option Value → AH → Prop} (hp : ∀ h', h' = h → post (some (.int (nI (siteW (usersR N nv (kdN N t) (N (112 + 7 * t + 4))) nv).1))) h') : ∀ (n : Nat) (v b : Nat) (s : Int32), (v + n = nv) → (b = (siteW (usersR N nv (kdN N t) (N (112 + 7 * t + 4))) v).1) → (s = (siteW (usersR N nv (kdN N t) (N (112 + 7 * t + 4))) v).2) → Ev D 4 mX12_siteOf 7 [some (.ref (82)), some (.int (nI (t))), some (.int (nI (b))), some (.int (s)), some (.int (nI (v))), none] [] h 0 0 post := by
  intro n
  induction n with
  | zero =>
    intro v b s hm hb hs
    refine e_iload dX12_siteOf_7 rfl ?_
    refine e_aload_n dX12_siteOf_9 rfl ?_
    refine e_get dX12_siteOf_10 fl_X12_9_12 hR.1 rfl ?_
    refine e_iconst (nI (1)) dX12_siteOf_13 (by decide) ?_
    refine e_ild (1) (nI (nv)) dX12_siteOf_14 hR.2.1 rfl (by omega) (by decide) hvc ?_
    refine e_icmp_geN 56 dX12_siteOf_15 (by decide) (by omega) (by omega) (fun hcq15 => ?_) (fun hcq15 => absurd hcq15 (by omega))
    refine e_iload_n dX12_siteOf_56 rfl ?_
    exact e_iret dX12_siteOf_57 rfl (by have e9 := hp _ rfl; rw [show v = nv by omega] at hb; rw [hb]; exact e9)
  | succ n ih =>
    intro v b s hm hb hs
    have hk9 := hW.2.1
    refine e_iload dX12_siteOf_7 rfl ?_
    refine e_aload_n dX12_siteOf_9 rfl ?_
    refine e_get dX12_siteOf_10 fl_X12_9_12 hR.1 rfl ?_
    refine e_iconst (nI (1)) dX12_siteOf_13 (by decide) ?_
    refine e_ild (1) (nI (nv)) dX12_siteOf_14 hR.2.1 rfl (by omega) (by decide) hvc ?_
    refine e_icmp_geN 56 dX12_siteOf_15 (by decide) (by omega) (by omega) (fun hcq15 => absurd hcq15 (by omega)) (fun hcq15 => ?_)
    refine e_aload_n dX12_siteOf_18 rfl ?_
    refine e_aload_n dX12_siteOf_19 rfl ?_
    refine e_iload_n dX12_siteOf_20 rfl ?_
    refine e_iconst (nI (0)) dX12_siteOf_21 (by decide) ?_
    refine c_V2iR (N := mX12_thing) dX12_siteOf_22 lv_X12_136 mo_X12_thing hR.cn (Nat.le_of_ble_eq_true rfl) (Nat.le_of_ble_eq_true rfl) (by decide) (s_thing D hR (t) (0) (by omega) (by omega)) ?_
    refine e_top (nI (kdN N t)) (hW.1) ?_
    refine e_aload_n dX12_siteOf_25 rfl ?_
    refine e_iload_n dX12_siteOf_26 rfl ?_
    refine e_iconst (nI (4)) dX12_siteOf_27 (by decide) ?_
    refine c_V2iR (N := mX12_thing) dX12_siteOf_28 lv_X12_136 mo_X12_thing hR.cn (Nat.le_of_ble_eq_true rfl) (Nat.le_of_ble_eq_true rfl) (by decide) (s_thing D hR (t) (4) (by omega) (by omega)) ?_
    refine e_iload dX12_siteOf_31 rfl ?_
    refine c_V3iR (N := mX12_usersOf) dX12_siteOf_33 lv_X12_146 mo_X12_usersOf hR.cn (Nat.le_of_ble_eq_true rfl) (Nat.le_of_ble_eq_true rfl) (by decide) (s_usersOf D hR hvc hnv (kdN N t) (by omega) ((N (112 + 7 * t + 4))) (v) (by omega)) ?_
    refine e_istore dX12_siteOf_36 (by decide) ?_
    refine e_iload dX12_siteOf_38 rfl ?_
    refine e_iload_n dX12_siteOf_40 rfl ?_
    refine e_icmp_le 50 dX12_siteOf_41 (by decide) (fun hcq41 => ?_) (fun hcq41 => ?_)
    · refine e_iincN (v + 1) dX12_siteOf_50 rfl (by decide) (nI_add _ _) ?_
      refine e_goto 7 dX12_siteOf_53 (by decide) ?_
      refine Ev.drop 5 ?_
      exact ih (v + 1) (b) (s) (by omega) (by rw [siteW, if_neg (by rw [← hs]; exact Int32.not_lt.mpr hcq41), ← hb]) (by rw [siteW, if_neg (by rw [← hs]; exact Int32.not_lt.mpr hcq41), ← hs])
    · refine e_iload dX12_siteOf_44 rfl ?_
      refine e_istore_n dX12_siteOf_46 (by decide) ?_
      refine e_iload dX12_siteOf_47 rfl ?_
      refine e_istore_n dX12_siteOf_49 (by decide) ?_
      refine e_iincN (v + 1) dX12_siteOf_50 rfl (by decide) (nI_add _ _) ?_
      refine e_goto 7 dX12_siteOf_53 (by decide) ?_
      refine Ev.drop 5 ?_
      exact ih (v + 1) (v) (usersR N nv (kdN N t) ((N (112 + 7 * t + 4))) v) (by omega) (by rw [siteW, if_pos (by rw [← hs]; exact Int32.not_le.mp hcq41)]) (by rw [siteW, if_pos (by rw [← hs]; exact Int32.not_le.mp hcq41)])
theorem s_siteOf (D : En) {h : AH} {N : Nat → Int32} {σ : Nat → Nat → Int32} {τ : Nat → Int32} (hR : RefAt h N σ τ) {nv : Nat} (hvc : N 1 = nI nv) (hnv : nv ≤ 8) (t : Nat) (ht : t < 10) (hW : TW N t) : Sp D 4 mX12_siteOf [.ref (82), .int (nI (t))] h 0 0 (some (.int (nI ((siteW (usersR N nv (kdN N t) (N (112 + 7 * t + 4))) nv).1)))) (fun h' => h' = h) := by
  intro post hp
  show Ev D 4 mX12_siteOf 0 [some (.ref (82)), some (.int (nI (t))), none, none, none, none] [] h 0 0 post
  refine e_iconst (nI (0)) dX12_siteOf_0 (by decide) ?_
  refine e_istore_n dX12_siteOf_1 (by decide) ?_
  refine e_iconst (((-1))) dX12_siteOf_2 (by decide) ?_
  refine e_istore_n dX12_siteOf_3 (by decide) ?_
  refine e_iconst (nI (0)) dX12_siteOf_4 (by decide) ?_
  refine e_istore dX12_siteOf_5 (by decide) ?_
  exact l_site D hR hvc hnv t ht hW hp nv 0 0 (-1) (by omega) rfl rfl
theorem s_mends (D : En) {h : AH} {N : Nat → Int32} {σ : Nat → Nat → Int32} {τ : Nat → Int32} (hR : RefAt h N σ τ) (a b : Nat) (ha : a < 8) (hb : b < 8) (hab : ¬ a = b) (x : Int32) : Sp D 1 mX12_mends [.ref (82), .int (nI (a)), .int (nI (b)), .int (x)] h 0 0 (some (.int (N (48 + 8 * a + b)))) (fun h' => RefAt h' (upd (upd N (48 + 8 * b + a) x) (48 + 8 * a + b) x) σ τ ∧ FrR h h') := by
  intro post hp
  show Ev D 1 mX12_mends 0 [some (.ref (82)), some (.int (nI (a))), some (.int (nI (b))), some (.int (x))] [] h 0 0 post
  have hF : FrR h h := FrR.rf
  refine e_aload_n dX12_mends_0 rfl ?_
  refine e_get dX12_mends_1 fl_X12_9_12 hR.1 rfl ?_
  refine e_bipush (nI (48)) dX12_mends_4 (by decide) ?_
  refine e_bipush (nI (8)) dX12_mends_6 (by decide) ?_
  refine e_iload_n dX12_mends_8 rfl ?_
  refine e_imulN dX12_mends_9 ?_
  refine e_iaddN dX12_mends_10 ?_
  refine e_iload_n dX12_mends_11 rfl ?_
  refine e_iaddN dX12_mends_12 ?_
  refine e_iload_n dX12_mends_13 rfl ?_
  refine r_stN ((48 + (8 * b)) + a) dX12_mends_14 hR hF rfl (by omega) (fun h hR hF => ?_)
  refine e_aload_n dX12_mends_15 rfl ?_
  refine e_bipush (nI (48)) dX12_mends_16 (by decide) ?_
  refine e_bipush (nI (8)) dX12_mends_18 (by decide) ?_
  refine e_iload_n dX12_mends_20 rfl ?_
  refine e_imulN dX12_mends_21 ?_
  refine e_iaddN dX12_mends_22 ?_
  refine e_iload_n dX12_mends_23 rfl ?_
  refine e_iaddN dX12_mends_24 ?_
  refine e_iload_n dX12_mends_25 rfl ?_
  refine c_V2i (N := mX12_put) dX12_mends_26 lv_X12_113 mo_X12_put hR.cn (Nat.le_of_ble_eq_true rfl) (Nat.le_of_ble_eq_true rfl) (by decide) (s_put D hR ((48 + (8 * a)) + b) (by omega) ((x))) (fun h hP => ?_)
  obtain ⟨hR, hF1⟩ := hP
  have hF := hF.trans hF1
  exact e_iret dX12_mends_29 rfl (by have e9 := hp _ ⟨hR, hF⟩; rw [pk_un (by omega)]; exact e9)
def standR (N : Nat → Int32) (t : Nat) (k a c l r : Int32) : Nat → Int32 := upd (upd (upd (upd (upd (upd (upd (upd N (112 + 7 * t + 0) k) (112 + 7 * t + 1) a) (112 + 7 * t + 2) c) (112 + 7 * t + 3) l) (112 + 7 * t + 4) r) (112 + 7 * t + 5) (nI 1)) (112 + 7 * t + 6) (-1)) 2 (nI (t + 1))
theorem s_stands (D : En) {h : AH} {N : Nat → Int32} {σ : Nat → Nat → Int32} {τ : Nat → Int32} (hR : RefAt h N σ τ) (t : Nat) (ht : t < 10) (hN : N 2 = nI t) (k a c l r : Int32) : Sp D 0 mX12_stands [.ref (82), .int (k), .int (a), .int (c), .int (l), .int (r)] h 0 0 (some (.int (nI (t)))) (fun h' => RefAt h' (standR N t k a c l r) σ τ ∧ FrR h h') := by
  intro post hp
  show Ev D 0 mX12_stands 0 [some (.ref (82)), some (.int (k)), some (.int (a)), some (.int (c)), some (.int (l)), some (.int (r)), none, none] [] h 0 0 post
  have hF : FrR h h := FrR.rf
  refine e_aload_n dX12_stands_0 rfl ?_
  refine e_get dX12_stands_1 fl_X12_9_12 hR.1 rfl ?_
  refine e_iconst (nI (2)) dX12_stands_4 (by decide) ?_
  refine e_ild (2) (nI (t)) dX12_stands_5 hR.2.1 rfl (by omega) (by decide) hN ?_
  refine e_istore dX12_stands_6 (by decide) ?_
  refine e_bipush (nI (112)) dX12_stands_8 (by decide) ?_
  refine e_bipush (nI (7)) dX12_stands_10 (by decide) ?_
  refine e_iload dX12_stands_12 rfl ?_
  refine e_imulN dX12_stands_14 ?_
  refine e_iaddN dX12_stands_15 ?_
  refine e_istore dX12_stands_16 (by decide) ?_
  refine e_aload_n dX12_stands_18 rfl ?_
  refine e_get dX12_stands_19 fl_X12_9_12 hR.1 rfl ?_
  refine e_iload dX12_stands_22 rfl ?_
  refine e_iconst (nI (0)) dX12_stands_24 (by decide) ?_
  refine e_iaddN dX12_stands_25 ?_
  refine e_iload_n dX12_stands_26 rfl ?_
  refine r_stN ((112 + (7 * t)) + 0) dX12_stands_27 hR hF rfl (by omega) (fun h hR hF => ?_)
  refine e_aload_n dX12_stands_28 rfl ?_
  refine e_get dX12_stands_29 fl_X12_9_12 hR.1 rfl ?_
  refine e_iload dX12_stands_32 rfl ?_
  refine e_iconst (nI (1)) dX12_stands_34 (by decide) ?_
  refine e_iaddN dX12_stands_35 ?_
  refine e_iload_n dX12_stands_36 rfl ?_
  refine r_stN ((112 + (7 * t)) + 1) dX12_stands_37 hR hF rfl (by omega) (fun h hR hF => ?_)
  refine e_aload_n dX12_stands_38 rfl ?_
  refine e_get dX12_stands_39 fl_X12_9_12 hR.1 rfl ?_
  refine e_iload dX12_stands_42 rfl ?_
  refine e_iconst (nI (2)) dX12_stands_44 (by decide) ?_
  refine e_iaddN dX12_stands_45 ?_
  refine e_iload_n dX12_stands_46 rfl ?_
  refine r_stN ((112 + (7 * t)) + 2) dX12_stands_47 hR hF rfl (by omega) (fun h hR hF => ?_)
  refine e_aload_n dX12_stands_48 rfl ?_
  refine e_get dX12_stands_49 fl_X12_9_12 hR.1 rfl ?_
  refine e_iload dX12_stands_52 rfl ?_
  refine e_iconst (nI (3)) dX12_stands_54 (by decide) ?_
  refine e_iaddN dX12_stands_55 ?_
  refine e_iload dX12_stands_56 rfl ?_
  refine r_stN ((112 + (7 * t)) + 3) dX12_stands_58 hR hF rfl (by omega) (fun h hR hF => ?_)
  refine e_aload_n dX12_stands_59 rfl ?_
  refine e_get dX12_stands_60 fl_X12_9_12 hR.1 rfl ?_
  refine e_iload dX12_stands_63 rfl ?_
  refine e_iconst (nI (4)) dX12_stands_65 (by decide) ?_
  refine e_iaddN dX12_stands_66 ?_
  refine e_iload dX12_stands_67 rfl ?_
  refine r_stN ((112 + (7 * t)) + 4) dX12_stands_69 hR hF rfl (by omega) (fun h hR hF => ?_)
  refine e_aload_n dX12_stands_70 rfl ?_
  refine e_get dX12_stands_71 fl_X12_9_12 hR.1 rfl ?_
  refine e_iload dX12_stands_74 rfl ?_
  refine e_iconst (nI (5)) dX12_stands_76 (by decide) ?_
  refine e_iaddN dX12_stands_77 ?_
  refine e_iconst (nI (1)) dX12_stands_78 (by decide) ?_
  refine r_stN ((112 + (7 * t)) + 5) dX12_stands_79 hR hF rfl (by omega) (fun h hR hF => ?_)
  refine e_aload_n dX12_stands_80 rfl ?_
  refine e_get dX12_stands_81 fl_X12_9_12 hR.1 rfl ?_
  refine e_iload dX12_stands_84 rfl ?_
  refine e_bipush (nI (6)) dX12_stands_86 (by decide) ?_
  refine e_iaddN dX12_stands_88 ?_
  refine e_iconst (((-1))) dX12_stands_89 (by decide) ?_
  refine r_stN ((112 + (7 * t)) + 6) dX12_stands_90 hR hF rfl (by omega) (fun h hR hF => ?_)
  refine e_aload_n dX12_stands_91 rfl ?_
  refine e_get dX12_stands_92 fl_X12_9_12 hR.1 rfl ?_
  refine e_iconst (nI (2)) dX12_stands_95 (by decide) ?_
  refine e_dup2 dX12_stands_96 rfl rfl ?_
  refine e_ild (2) (nI (t)) dX12_stands_97 hR.2.1 rfl (by omega) (by decide) (by simp (disch := omega) only [pk_un, hN]) ?_
  refine e_iconst (nI (1)) dX12_stands_98 (by decide) ?_
  refine e_iaddN dX12_stands_99 ?_
  refine r_stN (2) dX12_stands_100 hR hF rfl (by omega) (fun h hR hF => ?_)
  refine e_iload dX12_stands_101 rfl ?_
  exact e_iret dX12_stands_103 rfl (hp _ ⟨hR, hF⟩)
def chg (x : Int32) (b : Int64) : Int32 := (if (if x.toInt64 + b < 99999 then x.toInt64 + b else 99999) < 0 then 0 else (if x.toInt64 + b < 99999 then x.toInt64 + b else 99999)).toInt32
theorem s_change (D : En) {h : AH} {N : Nat → Int32} {σ : Nat → Nat → Int32} {τ : Nat → Int32} (hR : RefAt h N σ τ) (v s : Nat) (hv : v < 8) (hs : s < 3) (b : Int64) : Sp D 1 mX12_change [.ref (82), .int (nI (v)), .int (nI (s)), .long (b)] h 0 0 (none) (fun h' => RefAt h' (upd N (16 + 4 * v + 1 + s) (chg (N (16 + 4 * v + 1 + s)) b)) σ τ ∧ FrR h h') := by
  intro post hp
  show Ev D 1 mX12_change 0 [some (.ref (82)), some (.int (nI (v))), some (.int (nI (s))), some (.long (b)), none, none] [] h 0 0 post
  have hF : FrR h h := FrR.rf
  refine e_bipush (nI (16)) dX12_change_0 (by decide) ?_
  refine e_iconst (nI (4)) dX12_change_2 (by decide) ?_
  refine e_iload_n dX12_change_3 rfl ?_
  refine e_imulN dX12_change_4 ?_
  refine e_iaddN dX12_change_5 ?_
  refine e_iconst (nI (1)) dX12_change_6 (by decide) ?_
  refine e_iaddN dX12_change_7 ?_
  refine e_iload_n dX12_change_8 rfl ?_
  refine e_iaddN dX12_change_9 ?_
  refine e_istore dX12_change_10 (by decide) ?_
  refine e_aload_n dX12_change_12 rfl ?_
  refine e_get dX12_change_13 fl_X12_9_12 hR.1 rfl ?_
  refine e_iload dX12_change_16 rfl ?_
  refine e_lconst (0) dX12_change_18 rfl ?_
  refine e_ldc2 dX12_change_19 w_1561 ?_
  refine e_aload_n dX12_change_22 rfl ?_
  refine e_get dX12_change_23 fl_X12_9_12 hR.1 rfl ?_
  refine e_iload dX12_change_26 rfl ?_
  refine e_ild (((16 + (4 * v)) + 1) + s) ((N (((16 + (4 * v)) + 1) + s))) dX12_change_28 hR.2.1 rfl (by omega) (by decide) rfl ?_
  refine e_i2l dX12_change_29 ?_
  refine e_lload_n dX12_change_30 rfl ?_
  refine e_ladd dX12_change_31 ?_
  refine e_mminL dX12_change_32 mw_X12_252 (by decide) (Nat.le_of_ble_eq_true rfl) ?_
  refine e_mmaxL dX12_change_35 mw_X12_255 (by decide) (Nat.le_of_ble_eq_true rfl) ?_
  refine e_l2i dX12_change_38 ?_
  refine r_stN (((16 + (4 * v)) + 1) + s) dX12_change_39 hR hF rfl (by omega) (fun h hR hF => ?_)
  exact e_vret dX12_change_40 rfl (hp _ ⟨hR, hF⟩)
theorem s_held (D : En) {h : AH} (x m : Int32) : Sp D 1 mX12_held [.int (x), .int (m)] h 0 0 (some (.int (if nI 0 < (if x < m then x else m) then (if x < m then x else m) else nI 0))) (fun h' => h' = h) := by
  intro post hp
  show Ev D 1 mX12_held 0 [some (.int (x)), some (.int (m))] [] h 0 0 post
  refine e_iconst (nI (0)) dX12_held_0 (by decide) ?_
  refine e_iload_n dX12_held_1 rfl ?_
  refine e_iload_n dX12_held_2 rfl ?_
  refine e_mmin dX12_held_3 mw_X12_231 (by decide) (Nat.le_of_ble_eq_true rfl) ?_
  refine e_mmax dX12_held_6 mw_X12_234 (by decide) (Nat.le_of_ble_eq_true rfl) ?_
  exact e_iret dX12_held_9 rfl (hp _ rfl)
theorem s_isSheet (D : En) {h : AH} (x : Int32) : Sp D 1 mX12_isSheet [.int (x)] h 0 0 (some (.int (b2 (nI 0 ≤ x ∧ x ≤ nI 3)))) (fun h' => h' = h) := by
  intro post hp
  show Ev D 1 mX12_isSheet 0 [some (.int (x))] [] h 0 0 post
  refine e_iload_n dX12_isSheet_0 rfl ?_
  refine e_iconst (nI (0)) dX12_isSheet_1 (by decide) ?_
  refine e_iconst (nI (3)) dX12_isSheet_2 (by decide) ?_
  refine c_S3iR (N := mX12_within) dX12_isSheet_3 ls_X12_76 mo_X12_within  (Nat.le_of_ble_eq_true rfl) (Nat.le_of_ble_eq_true rfl) (by decide) (s_within D ((x)) (nI (0)) (nI (3))) ?_
  exact e_zretB dX12_isSheet_6 rfl (hp _ rfl)
theorem s_isAhead (D : En) {h : AH} (x : Int32) : Sp D 1 mX12_isAhead [.int (x)] h 0 0 (some (.int (b2 (nI 0 ≤ x ∧ x ≤ nI 40)))) (fun h' => h' = h) := by
  intro post hp
  show Ev D 1 mX12_isAhead 0 [some (.int (x))] [] h 0 0 post
  refine e_iload_n dX12_isAhead_0 rfl ?_
  refine e_iconst (nI (0)) dX12_isAhead_1 (by decide) ?_
  refine e_bipush (nI (40)) dX12_isAhead_2 (by decide) ?_
  refine c_S3iR (N := mX12_within) dX12_isAhead_4 ls_X12_76 mo_X12_within  (Nat.le_of_ble_eq_true rfl) (Nat.le_of_ble_eq_true rfl) (by decide) (s_within D ((x)) (nI (0)) (nI (40))) ?_
  exact e_zretB dX12_isAhead_7 rfl (hp _ rfl)
