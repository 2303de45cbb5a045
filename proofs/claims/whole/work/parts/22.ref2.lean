abbrev servR (N : Nat → Int32) (k : Nat) (r : Int32) (a v : Nat) : Prop := wayR N a v ≤ (if nI k = nI 5 then nI 2 * r else r)
def termR (N : Nat → Int32) (k : Nat) (r : Int32) (a v : Nat) : Int32 := if k = 1 ∨ k = 5 then (if servR N k r a v then N (16 + 4 * v + 1 + 0) else nI 0) else if k = 2 ∨ k = 3 then (if servR N k r a v then allR N v else nI 0) else (if servR N k r a v ∧ ¬ v = a then N (16 + 4 * v + 1 + 1) + N (16 + 4 * v + 1 + 2) else nI 0)
def startR (N : Nat → Int32) (k a : Nat) : Int32 := if k = 0 ∨ k = 6 then allR N a else if k = 3 then -N (16 + 4 * a + 1 + 1) else nI 0
def usersR (N : Nat → Int32) (nv k : Nat) (r : Int32) (a : Nat) : Int32 := startR N k a + sumF (termR N k r a) (if k = 0 then 0 else nv)
theorem l_users (D : En) {h : AH} {N : Nat → Int32} {σ : Nat → Nat → Int32} {τ : Nat → Int32} (hR : RefAt h N σ τ) {nv : Nat} (hvc : N 1 = nI nv) (hnv : nv ≤ 8) (k : Nat) (hk : k < 7) (hk0 : ¬ k = 0) (r : Int32) (a : Nat) (ha : a < 8) {post : Option Value → AH → Prop} (hp : ∀ h', h' = h → post (some (.int (startR N k a + sumF (termR N k r a) nv))) h') : ∀ (n : Nat) (v : Nat) (s : Int32), (v + n = nv) → (s = startR N k a + sumF (termR N k r a) v) → Ev D 3 mX12_usersOf 39 [some (.ref (78)), some (.int (nI (k))), some (.int (r)), some (.int (nI (a))), some (.int (s)), some (.int (nI (v))), none] [] h 0 0 post := by
  intro n
  induction n with
  | zero =>
    intro v s hm hs
    refine e_iload dX12_usersOf_39 rfl ?_
    refine e_aload_n dX12_usersOf_41 rfl ?_
    refine e_get dX12_usersOf_42 fl_X12_9_12 hR.1 rfl ?_
    refine e_iconst (nI (1)) dX12_usersOf_45 (by decide) ?_
    refine e_ild (1) (nI (nv)) dX12_usersOf_46 hR.2.1 rfl (by omega) (by decide) hvc ?_
    refine e_icmp_geN 188 dX12_usersOf_47 (by decide) (by omega) (by omega) (fun c47 => ?_) (fun c47 => absurd c47 (by omega))
    refine e_iload dX12_usersOf_188 rfl ?_
    exact e_iret dX12_usersOf_190 rfl (by have e9 := hp _ rfl; rw [show v = nv by omega] at hs; rw [hs]; exact e9)
  | succ n ih =>
    intro v s hm hs
    refine e_iload dX12_usersOf_39 rfl ?_
    refine e_aload_n dX12_usersOf_41 rfl ?_
    refine e_get dX12_usersOf_42 fl_X12_9_12 hR.1 rfl ?_
    refine e_iconst (nI (1)) dX12_usersOf_45 (by decide) ?_
    refine e_ild (1) (nI (nv)) dX12_usersOf_46 hR.2.1 rfl (by omega) (by decide) hvc ?_
    refine e_icmp_geN 188 dX12_usersOf_47 (by decide) (by omega) (by omega) (fun c47 => absurd c47 (by omega)) (fun c47 => ?_)
    refine e_iload_n dX12_usersOf_50 rfl ?_
    refine e_if_eqN 188 dX12_usersOf_51 (by decide) (by omega) (fun c51 => absurd c51 hk0) (fun c51 => ?_)
    refine e_aload_n dX12_usersOf_54 rfl ?_
    refine e_iload_n dX12_usersOf_55 rfl ?_
    refine e_iload_n dX12_usersOf_56 rfl ?_
    refine e_iload_n dX12_usersOf_57 rfl ?_
    refine e_iload dX12_usersOf_58 rfl ?_
    refine c_V4iR (N := mX12_serves) dX12_usersOf_60 lv_X12_143 mo_X12_serves hR.cn (Nat.le_of_ble_eq_true rfl) (Nat.le_of_ble_eq_true rfl) (by decide) (s_serves D hR (nI (k)) ((r)) (a) (v) (by omega) (by omega)) ?_
    refine e_istore dX12_usersOf_63 (by decide) ?_
    refine e_iload_n dX12_usersOf_65 rfl ?_
    have hsp66 : k = 1 ∨ k = 2 ∨ k = 3 ∨ k = 4 ∨ k = 5 ∨ k = 6 := by omega
    rcases hsp66 with rfl | rfl | rfl | rfl | rfl | rfl
    · refine e_tableIn (off := 34) 100 dX12_usersOf_66 (by decide) (by decide) (by decide) (by decide) ?_
      refine e_iload dX12_usersOf_100 rfl ?_
      refine e_iload dX12_usersOf_102 rfl ?_
      have K1 : Ev D 3 mX12_usersOf 118 [some (.ref (78)), some (.int (nI (1))), some (.int (r)), some (.int (nI (a))), some (.int (s)), some (.int (nI (v))), some (.int (b2 (wayR N a v ≤ (if nI (1) = nI 5 then nI 2 * (r) else (r)))))] [.int (if wayR N a v ≤ (if nI (1) = nI 5 then nI 2 * (r) else (r)) then N (16 + 4 * v + 1 + 0) else nI 0), .int (s)] h 0 0 post := by
        refine e_iadd dX12_usersOf_118 ?_
        refine e_istore dX12_usersOf_119 (by decide) ?_
        refine e_goto 182 dX12_usersOf_121 (by decide) ?_
        refine e_iincN (v + 1) dX12_usersOf_182 rfl (by decide) (nI_add _ _) ?_
        refine e_goto 39 dX12_usersOf_185 (by decide) ?_
        refine Ev.drop 6 ?_
        exact ih (v + 1) ((s) + (if wayR N a v ≤ (if nI (1) = nI 5 then nI 2 * (r) else (r)) then N (16 + 4 * v + 1 + 0) else nI 0)) (by omega) (by rw [hs, sumF, ← Int32.add_assoc]; congr 1)
      refine e_if_eqB 117 dX12_usersOf_104 (by decide) (fun c104 => ?_) (fun c104 => ?_)
      · refine e_iconst (nI (0)) dX12_usersOf_117 (by decide) ?_
        exact e_top ((if wayR N a v ≤ (if nI (1) = nI 5 then nI 2 * (r) else (r)) then N (16 + 4 * v + 1 + 0) else nI 0)) (by first | exact (if_pos (by assumption)).symm | exact (if_neg (by assumption)).symm | exact (b2_t (by assumption)).symm | exact (b2_f (by assumption)).symm | simp_all [b2]) K1
      · refine e_aload_n dX12_usersOf_107 rfl ?_
        refine e_iload dX12_usersOf_108 rfl ?_
        refine e_iconst (nI (0)) dX12_usersOf_110 (by decide) ?_
        refine c_V2iR (N := mX12_of) dX12_usersOf_111 lv_X12_99 mo_X12_of hR.cn (Nat.le_of_ble_eq_true rfl) (Nat.le_of_ble_eq_true rfl) (by decide) (s_of D hR (v) (0) (by omega) (by omega)) ?_
        refine e_goto 118 dX12_usersOf_114 (by decide) ?_
        exact e_top ((if wayR N a v ≤ (if nI (1) = nI 5 then nI 2 * (r) else (r)) then N (16 + 4 * v + 1 + 0) else nI 0)) (by first | exact (if_pos (by assumption)).symm | exact (if_neg (by assumption)).symm | exact (b2_t (by assumption)).symm | exact (b2_f (by assumption)).symm | simp_all [b2]) K1
    · refine e_tableIn (off := 58) 124 dX12_usersOf_66 (by decide) (by decide) (by decide) (by decide) ?_
      refine e_iload dX12_usersOf_124 rfl ?_
      refine e_iload dX12_usersOf_126 rfl ?_
      have K2 : Ev D 3 mX12_usersOf 141 [some (.ref (78)), some (.int (nI (2))), some (.int (r)), some (.int (nI (a))), some (.int (s)), some (.int (nI (v))), some (.int (b2 (wayR N a v ≤ (if nI (2) = nI 5 then nI 2 * (r) else (r)))))] [.int (if wayR N a v ≤ (if nI (2) = nI 5 then nI 2 * (r) else (r)) then allR N v else nI 0), .int (s)] h 0 0 post := by
        refine e_iadd dX12_usersOf_141 ?_
        refine e_istore dX12_usersOf_142 (by decide) ?_
        refine e_goto 182 dX12_usersOf_144 (by decide) ?_
        refine e_iincN (v + 1) dX12_usersOf_182 rfl (by decide) (nI_add _ _) ?_
        refine e_goto 39 dX12_usersOf_185 (by decide) ?_
        refine Ev.drop 6 ?_
        exact ih (v + 1) ((s) + (if wayR N a v ≤ (if nI (2) = nI 5 then nI 2 * (r) else (r)) then allR N v else nI 0)) (by omega) (by rw [hs, sumF, ← Int32.add_assoc]; congr 1)
      refine e_if_eqB 140 dX12_usersOf_128 (by decide) (fun c128 => ?_) (fun c128 => ?_)
      · refine e_iconst (nI (0)) dX12_usersOf_140 (by decide) ?_
        exact e_top ((if wayR N a v ≤ (if nI (2) = nI 5 then nI 2 * (r) else (r)) then allR N v else nI 0)) (by first | exact (if_pos (by assumption)).symm | exact (if_neg (by assumption)).symm | exact (b2_t (by assumption)).symm | exact (b2_f (by assumption)).symm | simp_all [b2]) K2
      · refine e_aload_n dX12_usersOf_131 rfl ?_
        refine e_iload dX12_usersOf_132 rfl ?_
        refine c_V1iR (N := mX12_allOf) dX12_usersOf_134 lv_X12_107 mo_X12_allOf hR.cn (Nat.le_of_ble_eq_true rfl) (Nat.le_of_ble_eq_true rfl) (by decide) (s_allOf D hR (v) (by omega)) ?_
        refine e_goto 141 dX12_usersOf_137 (by decide) ?_
        exact e_top ((if wayR N a v ≤ (if nI (2) = nI 5 then nI 2 * (r) else (r)) then allR N v else nI 0)) (by first | exact (if_pos (by assumption)).symm | exact (if_neg (by assumption)).symm | exact (b2_t (by assumption)).symm | exact (b2_f (by assumption)).symm | simp_all [b2]) K2
    · refine e_tableIn (off := 58) 124 dX12_usersOf_66 (by decide) (by decide) (by decide) (by decide) ?_
      refine e_iload dX12_usersOf_124 rfl ?_
      refine e_iload dX12_usersOf_126 rfl ?_
      have K3 : Ev D 3 mX12_usersOf 141 [some (.ref (78)), some (.int (nI (3))), some (.int (r)), some (.int (nI (a))), some (.int (s)), some (.int (nI (v))), some (.int (b2 (wayR N a v ≤ (if nI (3) = nI 5 then nI 2 * (r) else (r)))))] [.int (if wayR N a v ≤ (if nI (3) = nI 5 then nI 2 * (r) else (r)) then allR N v else nI 0), .int (s)] h 0 0 post := by
        refine e_iadd dX12_usersOf_141 ?_
        refine e_istore dX12_usersOf_142 (by decide) ?_
        refine e_goto 182 dX12_usersOf_144 (by decide) ?_
        refine e_iincN (v + 1) dX12_usersOf_182 rfl (by decide) (nI_add _ _) ?_
        refine e_goto 39 dX12_usersOf_185 (by decide) ?_
        refine Ev.drop 6 ?_
        exact ih (v + 1) ((s) + (if wayR N a v ≤ (if nI (3) = nI 5 then nI 2 * (r) else (r)) then allR N v else nI 0)) (by omega) (by rw [hs, sumF, ← Int32.add_assoc]; congr 1)
      refine e_if_eqB 140 dX12_usersOf_128 (by decide) (fun c128 => ?_) (fun c128 => ?_)
      · refine e_iconst (nI (0)) dX12_usersOf_140 (by decide) ?_
        exact e_top ((if wayR N a v ≤ (if nI (3) = nI 5 then nI 2 * (r) else (r)) then allR N v else nI 0)) (by first | exact (if_pos (by assumption)).symm | exact (if_neg (by assumption)).symm | exact (b2_t (by assumption)).symm | exact (b2_f (by assumption)).symm | simp_all [b2]) K3
      · refine e_aload_n dX12_usersOf_131 rfl ?_
        refine e_iload dX12_usersOf_132 rfl ?_
        refine c_V1iR (N := mX12_allOf) dX12_usersOf_134 lv_X12_107 mo_X12_allOf hR.cn (Nat.le_of_ble_eq_true rfl) (Nat.le_of_ble_eq_true rfl) (by decide) (s_allOf D hR (v) (by omega)) ?_
        refine e_goto 141 dX12_usersOf_137 (by decide) ?_
        exact e_top ((if wayR N a v ≤ (if nI (3) = nI 5 then nI 2 * (r) else (r)) then allR N v else nI 0)) (by first | exact (if_pos (by assumption)).symm | exact (if_neg (by assumption)).symm | exact (b2_t (by assumption)).symm | exact (b2_f (by assumption)).symm | simp_all [b2]) K3
    · refine e_tableIn (off := 81) 147 dX12_usersOf_66 (by decide) (by decide) (by decide) (by decide) ?_
      refine e_iload dX12_usersOf_147 rfl ?_
      refine e_iload dX12_usersOf_149 rfl ?_
      have K4 : Ev D 3 mX12_usersOf 179 [some (.ref (78)), some (.int (nI (4))), some (.int (r)), some (.int (nI (a))), some (.int (s)), some (.int (nI (v))), some (.int (b2 (wayR N a v ≤ (if nI (4) = nI 5 then nI 2 * (r) else (r)))))] [.int (if wayR N a v ≤ (if nI (4) = nI 5 then nI 2 * (r) else (r)) ∧ ¬ v = a then N (16 + 4 * v + 1 + 1) + N (16 + 4 * v + 1 + 2) else nI 0), .int (s)] h 0 0 post := by
        refine e_iadd dX12_usersOf_179 ?_
        refine e_istore dX12_usersOf_180 (by decide) ?_
        refine e_iincN (v + 1) dX12_usersOf_182 rfl (by decide) (nI_add _ _) ?_
        refine e_goto 39 dX12_usersOf_185 (by decide) ?_
        refine Ev.drop 6 ?_
        exact ih (v + 1) ((s) + (if wayR N a v ≤ (if nI (4) = nI 5 then nI 2 * (r) else (r)) ∧ ¬ v = a then N (16 + 4 * v + 1 + 1) + N (16 + 4 * v + 1 + 2) else nI 0)) (by omega) (by rw [hs, sumF, ← Int32.add_assoc]; congr 1)
      refine e_if_eqB 178 dX12_usersOf_151 (by decide) (fun c151 => ?_) (fun c151 => ?_)
      · refine e_iconst (nI (0)) dX12_usersOf_178 (by decide) ?_
        exact e_top ((if wayR N a v ≤ (if nI (4) = nI 5 then nI 2 * (r) else (r)) ∧ ¬ v = a then N (16 + 4 * v + 1 + 1) + N (16 + 4 * v + 1 + 2) else nI 0)) (by first | exact (if_pos ⟨c151, c157⟩).symm | exact (if_neg (fun q => c151 q.1)).symm | exact (if_neg (fun q => q.2 c157)).symm) K4
      · refine e_iload dX12_usersOf_154 rfl ?_
        refine e_iload_n dX12_usersOf_156 rfl ?_
        refine e_icmp_eqN 178 dX12_usersOf_157 (by decide) (by omega) (by omega) (fun c157 => ?_) (fun c157 => ?_)
        · refine e_iconst (nI (0)) dX12_usersOf_178 (by decide) ?_
          exact e_top ((if wayR N a v ≤ (if nI (4) = nI 5 then nI 2 * (r) else (r)) ∧ ¬ v = a then N (16 + 4 * v + 1 + 1) + N (16 + 4 * v + 1 + 2) else nI 0)) (by first | exact (if_pos ⟨c151, c157⟩).symm | exact (if_neg (fun q => c151 q.1)).symm | exact (if_neg (fun q => q.2 c157)).symm) K4
        · refine e_aload_n dX12_usersOf_160 rfl ?_
          refine e_iload dX12_usersOf_161 rfl ?_
          refine e_iconst (nI (1)) dX12_usersOf_163 (by decide) ?_
          refine c_V2iR (N := mX12_of) dX12_usersOf_164 lv_X12_99 mo_X12_of hR.cn (Nat.le_of_ble_eq_true rfl) (Nat.le_of_ble_eq_true rfl) (by decide) (s_of D hR (v) (1) (by omega) (by omega)) ?_
          refine e_aload_n dX12_usersOf_167 rfl ?_
          refine e_iload dX12_usersOf_168 rfl ?_
          refine e_iconst (nI (2)) dX12_usersOf_170 (by decide) ?_
          refine c_V2iR (N := mX12_of) dX12_usersOf_171 lv_X12_99 mo_X12_of hR.cn (Nat.le_of_ble_eq_true rfl) (Nat.le_of_ble_eq_true rfl) (by decide) (s_of D hR (v) (2) (by omega) (by omega)) ?_
          refine e_iadd dX12_usersOf_174 ?_
          refine e_goto 179 dX12_usersOf_175 (by decide) ?_
          exact e_top ((if wayR N a v ≤ (if nI (4) = nI 5 then nI 2 * (r) else (r)) ∧ ¬ v = a then N (16 + 4 * v + 1 + 1) + N (16 + 4 * v + 1 + 2) else nI 0)) (by first | exact (if_pos ⟨c151, c157⟩).symm | exact (if_neg (fun q => c151 q.1)).symm | exact (if_neg (fun q => q.2 c157)).symm) K4
    · refine e_tableIn (off := 34) 100 dX12_usersOf_66 (by decide) (by decide) (by decide) (by decide) ?_
      refine e_iload dX12_usersOf_100 rfl ?_
      refine e_iload dX12_usersOf_102 rfl ?_
      have K5 : Ev D 3 mX12_usersOf 118 [some (.ref (78)), some (.int (nI (5))), some (.int (r)), some (.int (nI (a))), some (.int (s)), some (.int (nI (v))), some (.int (b2 (wayR N a v ≤ (if nI (5) = nI 5 then nI 2 * (r) else (r)))))] [.int (if wayR N a v ≤ (if nI (5) = nI 5 then nI 2 * (r) else (r)) then N (16 + 4 * v + 1 + 0) else nI 0), .int (s)] h 0 0 post := by
        refine e_iadd dX12_usersOf_118 ?_
        refine e_istore dX12_usersOf_119 (by decide) ?_
        refine e_goto 182 dX12_usersOf_121 (by decide) ?_
        refine e_iincN (v + 1) dX12_usersOf_182 rfl (by decide) (nI_add _ _) ?_
        refine e_goto 39 dX12_usersOf_185 (by decide) ?_
        refine Ev.drop 6 ?_
        exact ih (v + 1) ((s) + (if wayR N a v ≤ (if nI (5) = nI 5 then nI 2 * (r) else (r)) then N (16 + 4 * v + 1 + 0) else nI 0)) (by omega) (by rw [hs, sumF, ← Int32.add_assoc]; congr 1)
      refine e_if_eqB 117 dX12_usersOf_104 (by decide) (fun c104 => ?_) (fun c104 => ?_)
      · refine e_iconst (nI (0)) dX12_usersOf_117 (by decide) ?_
        exact e_top ((if wayR N a v ≤ (if nI (5) = nI 5 then nI 2 * (r) else (r)) then N (16 + 4 * v + 1 + 0) else nI 0)) (by first | exact (if_pos (by assumption)).symm | exact (if_neg (by assumption)).symm | exact (b2_t (by assumption)).symm | exact (b2_f (by assumption)).symm | simp_all [b2]) K5
      · refine e_aload_n dX12_usersOf_107 rfl ?_
        refine e_iload dX12_usersOf_108 rfl ?_
        refine e_iconst (nI (0)) dX12_usersOf_110 (by decide) ?_
        refine c_V2iR (N := mX12_of) dX12_usersOf_111 lv_X12_99 mo_X12_of hR.cn (Nat.le_of_ble_eq_true rfl) (Nat.le_of_ble_eq_true rfl) (by decide) (s_of D hR (v) (0) (by omega) (by omega)) ?_
        refine e_goto 118 dX12_usersOf_114 (by decide) ?_
        exact e_top ((if wayR N a v ≤ (if nI (5) = nI 5 then nI 2 * (r) else (r)) then N (16 + 4 * v + 1 + 0) else nI 0)) (by first | exact (if_pos (by assumption)).symm | exact (if_neg (by assumption)).symm | exact (b2_t (by assumption)).symm | exact (b2_f (by assumption)).symm | simp_all [b2]) K5
    · refine e_tableOut 147 dX12_usersOf_66 (by decide) (by decide) ?_
      refine e_iload dX12_usersOf_147 rfl ?_
      refine e_iload dX12_usersOf_149 rfl ?_
      have K6 : Ev D 3 mX12_usersOf 179 [some (.ref (78)), some (.int (nI (6))), some (.int (r)), some (.int (nI (a))), some (.int (s)), some (.int (nI (v))), some (.int (b2 (wayR N a v ≤ (if nI (6) = nI 5 then nI 2 * (r) else (r)))))] [.int (if wayR N a v ≤ (if nI (6) = nI 5 then nI 2 * (r) else (r)) ∧ ¬ v = a then N (16 + 4 * v + 1 + 1) + N (16 + 4 * v + 1 + 2) else nI 0), .int (s)] h 0 0 post := by
        refine e_iadd dX12_usersOf_179 ?_
        refine e_istore dX12_usersOf_180 (by decide) ?_
        refine e_iincN (v + 1) dX12_usersOf_182 rfl (by decide) (nI_add _ _) ?_
        refine e_goto 39 dX12_usersOf_185 (by decide) ?_
        refine Ev.drop 6 ?_
        exact ih (v + 1) ((s) + (if wayR N a v ≤ (if nI (6) = nI 5 then nI 2 * (r) else (r)) ∧ ¬ v = a then N (16 + 4 * v + 1 + 1) + N (16 + 4 * v + 1 + 2) else nI 0)) (by omega) (by rw [hs, sumF, ← Int32.add_assoc]; congr 1)
      refine e_if_eqB 178 dX12_usersOf_151 (by decide) (fun c151 => ?_) (fun c151 => ?_)
      · refine e_iconst (nI (0)) dX12_usersOf_178 (by decide) ?_
        exact e_top ((if wayR N a v ≤ (if nI (6) = nI 5 then nI 2 * (r) else (r)) ∧ ¬ v = a then N (16 + 4 * v + 1 + 1) + N (16 + 4 * v + 1 + 2) else nI 0)) (by first | exact (if_pos ⟨c151, c157⟩).symm | exact (if_neg (fun q => c151 q.1)).symm | exact (if_neg (fun q => q.2 c157)).symm) K6
      · refine e_iload dX12_usersOf_154 rfl ?_
        refine e_iload_n dX12_usersOf_156 rfl ?_
        refine e_icmp_eqN 178 dX12_usersOf_157 (by decide) (by omega) (by omega) (fun c157 => ?_) (fun c157 => ?_)
        · refine e_iconst (nI (0)) dX12_usersOf_178 (by decide) ?_
          exact e_top ((if wayR N a v ≤ (if nI (6) = nI 5 then nI 2 * (r) else (r)) ∧ ¬ v = a then N (16 + 4 * v + 1 + 1) + N (16 + 4 * v + 1 + 2) else nI 0)) (by first | exact (if_pos ⟨c151, c157⟩).symm | exact (if_neg (fun q => c151 q.1)).symm | exact (if_neg (fun q => q.2 c157)).symm) K6
        · refine e_aload_n dX12_usersOf_160 rfl ?_
          refine e_iload dX12_usersOf_161 rfl ?_
          refine e_iconst (nI (1)) dX12_usersOf_163 (by decide) ?_
          refine c_V2iR (N := mX12_of) dX12_usersOf_164 lv_X12_99 mo_X12_of hR.cn (Nat.le_of_ble_eq_true rfl) (Nat.le_of_ble_eq_true rfl) (by decide) (s_of D hR (v) (1) (by omega) (by omega)) ?_
          refine e_aload_n dX12_usersOf_167 rfl ?_
          refine e_iload dX12_usersOf_168 rfl ?_
          refine e_iconst (nI (2)) dX12_usersOf_170 (by decide) ?_
          refine c_V2iR (N := mX12_of) dX12_usersOf_171 lv_X12_99 mo_X12_of hR.cn (Nat.le_of_ble_eq_true rfl) (Nat.le_of_ble_eq_true rfl) (by decide) (s_of D hR (v) (2) (by omega) (by omega)) ?_
          refine e_iadd dX12_usersOf_174 ?_
          refine e_goto 179 dX12_usersOf_175 (by decide) ?_
          exact e_top ((if wayR N a v ≤ (if nI (6) = nI 5 then nI 2 * (r) else (r)) ∧ ¬ v = a then N (16 + 4 * v + 1 + 1) + N (16 + 4 * v + 1 + 2) else nI 0)) (by first | exact (if_pos ⟨c151, c157⟩).symm | exact (if_neg (fun q => c151 q.1)).symm | exact (if_neg (fun q => q.2 c157)).symm) K6
