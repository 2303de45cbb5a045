/-! THE START: what the entry says of the outer cells -/
theorem zs_len {args : Array Value} {first s : State} {o : Option Outcome} {idx : List Nat} {t : Term} {v : Value} (h : (Term.length t).eval args first o idx s = some v) : ∃ (a : Addr) (cell : Cell), t.eval args first o idx s = some (.ref a) ∧ s.arrayAt? a = some cell ∧ cell.slots.size < 2147483648 ∧ v = .int cell.slots.size.toInt32 := by
  obtain ⟨a, cell, h1, h2, h3⟩ := Term.length_spec h
  refine ⟨a, cell, h1, h2, ?_, h3⟩
  by_cases hn : cell.slots.size < 2147483648
  · exact hn
  · simp only [Term.eval, h1, Option.bind_eq_bind, Option.bind_some, h2] at h
    simp [hn] at h
theorem zs_row {args : Array Value} {s : State} {tm : Term} {f : Nat → Int32} {A : Nat → Prop} (harr : (Cond.arrayOf tm .int).before args s = true) (hlen : (Cond.eq (.length tm) (.int 6)).before args s = true) (hel : ∀ j, j < 6 → (Cond.eq (.elem tm (.int (Int32.ofNat j))) (.int (f j))).before args s = true) (hA : ∀ a : Nat, a < s.heap.size → ¬ A a) : ∃ t : Nat, tm.eval args s none [] s = some (.ref t) ∧ va_T .int t 6 (fun j => .int (f j)) A s s.heap :=
  va_Tof (N := 6) (by decide) harr (va_eqt hlen) (fun j hj => va_eqt (hel j hj)) hA
theorem zs_cell {args : Array Value} {s : State} {tm : Term} {f : Nat → Int32} {A : Nat → Prop} {t : Nat} {cI : ClassId} (hlen : (Cond.eq (.length tm) (.int 6)).before args s = true) (hex : (Cond.exactly tm "[I").before args s = true) (ht : tm.eval args s none [] s = some (.ref t)) (hT : va_T .int t 6 (fun j => .int (f j)) A s s.heap) (hc : s.vm.findClass "[I" = some cI) : ∃ cell : Cell, s.heap[t]? = some cell ∧ cell.vm ≠ .unknown ∧ cell.vm.isStatics = false ∧ cell.cls = cI ∧ cell.slots = Array.ofFn (n := 6) (fun j => Value.int (f j.val)) := by
  obtain ⟨a, cell, h1, h2, h3, h4⟩ := zs_len (va_eqt hlen)
  cases ht.symm.trans h1
  obtain ⟨g1, g2, g3, -⟩ := State.arrayAt?_spec h2
  obtain ⟨a', c', cell', k', q1, q2, q3, q4, q5, q6, -⟩ := Cond.exactly_spec (args := args) (first := s) (o := none) (s := s) (idx := []) (t := tm) (cls := "[I") hex
  cases ht.symm.trans q1
  cases g1.symm.trans q3
  obtain ⟨cell2, r1, r2, r3, r4, r5, r6, r7⟩ := hT
  cases g1.symm.trans r1
  have hz : cell.slots.size = 6 := by
    have e := congrArg Int32.toNatClampNeg r5
    rw [show cell.slots.size.toInt32 = Int32.ofNat cell.slots.size from rfl, Int32.toNatClampNeg_ofNat_of_lt h3, Int32.toNatClampNeg_ofNat_of_lt (by decide)] at e
    exact e
  refine ⟨cell, g1, g2, g3, q6.trans (Option.some.inj (q2.symm.trans hc)), ?_⟩
  apply Array.ext_getElem?
  intro i
  by_cases hi : i < 6
  · rw [r6 i hi, Array.getElem?_ofFn, dif_pos hi]
  · rw [Array.getElem?_eq_none (by omega), Array.getElem?_eq_none (by simp; omega)]
theorem zs_eqR {args : Array Value} {s : State} {t u : Term} {a : Nat} (h : (Cond.eq t u).before args s = true) (hx : (Cond.exactly u "java/lang/String").before args s = true) (ht : t.eval args s none [] s = some (.ref a)) : u.eval args s none [] s = some (.ref a) := by
  obtain ⟨a', c', cell', k', q1, -⟩ := Cond.exactly_spec (args := args) (first := s) (o := none) (s := s) (idx := []) (t := u) (cls := "java/lang/String") hx
  rw [q1]
  by_cases e : a' = a
  · rw [e]
  · exfalso
    have e2 : ¬ a = a' := fun z => e z.symm
    simp [Cond.before, Cond.holds, Cond.value, ht, q1, e, e2] at h
/-- what is given of the start -/
abbrev zsG : List Cond := flatC (Jvm.Cond.and given_1 narrow_1)
def fFi (j : Nat) : Int32 := match j with | 0 => 3 | 1 => 6 | 2 => 3 | 3 => 5 | 4 => 100 | _ => 0
theorem fFi_N0 : ∀ k, k < 6 → fFi k = N0 (7 + k) := by decide +kernel
theorem zs_RATE_FIRST {args : Array Value} {s : State} (hs : ∀ c ∈ zsG, c.before args s = true) : ∀ j, j < 6 → (Cond.eq (.elem (.static "EmptyLand" "RATE_FIRST" "[I") (.int (Int32.ofNat j))) (.int (fFi j))).before args s = true := by
  intro j hj
  rcases (show j = 0 ∨ j = 1 ∨ j = 2 ∨ j = 3 ∨ j = 4 ∨ j = 5 by omega) with rfl | rfl | rfl | rfl | rfl | rfl
  · exact hs (Cond.eq (.elem (.static "EmptyLand" "RATE_FIRST" "[I") (.int 0)) (.int (3))) (by decide +kernel)
  · exact hs (Cond.eq (.elem (.static "EmptyLand" "RATE_FIRST" "[I") (.int 1)) (.int (6))) (by decide +kernel)
  · exact hs (Cond.eq (.elem (.static "EmptyLand" "RATE_FIRST" "[I") (.int 2)) (.int (3))) (by decide +kernel)
  · exact hs (Cond.eq (.elem (.static "EmptyLand" "RATE_FIRST" "[I") (.int 3)) (.int (5))) (by decide +kernel)
  · exact hs (Cond.eq (.elem (.static "EmptyLand" "RATE_FIRST" "[I") (.int 4)) (.int (100))) (by decide +kernel)
  · exact hs (Cond.eq (.elem (.static "EmptyLand" "RATE_FIRST" "[I") (.int 5)) (.int (0))) (by decide +kernel)
theorem zs_RATE_LEAST {args : Array Value} {s : State} (hs : ∀ c ∈ zsG, c.before args s = true) : ∀ j, j < 6 → (Cond.eq (.elem (.static "EmptyLand" "RATE_LEAST" "[I") (.int (Int32.ofNat j))) (.int (rLo j))).before args s = true := by
  intro j hj
  rcases (show j = 0 ∨ j = 1 ∨ j = 2 ∨ j = 3 ∨ j = 4 ∨ j = 5 by omega) with rfl | rfl | rfl | rfl | rfl | rfl
  · exact hs (Cond.eq (.elem (.static "EmptyLand" "RATE_LEAST" "[I") (.int 0)) (.int (0))) (by decide +kernel)
  · exact hs (Cond.eq (.elem (.static "EmptyLand" "RATE_LEAST" "[I") (.int 1)) (.int (0))) (by decide +kernel)
  · exact hs (Cond.eq (.elem (.static "EmptyLand" "RATE_LEAST" "[I") (.int 2)) (.int (0))) (by decide +kernel)
  · exact hs (Cond.eq (.elem (.static "EmptyLand" "RATE_LEAST" "[I") (.int 3)) (.int (0))) (by decide +kernel)
  · exact hs (Cond.eq (.elem (.static "EmptyLand" "RATE_LEAST" "[I") (.int 4)) (.int (0))) (by decide +kernel)
  · exact hs (Cond.eq (.elem (.static "EmptyLand" "RATE_LEAST" "[I") (.int 5)) (.int (-9999999))) (by decide +kernel)
theorem zs_RATE_MOST {args : Array Value} {s : State} (hs : ∀ c ∈ zsG, c.before args s = true) : ∀ j, j < 6 → (Cond.eq (.elem (.static "EmptyLand" "RATE_MOST" "[I") (.int (Int32.ofNat j))) (.int (rHi j))).before args s = true := by
  intro j hj
  rcases (show j = 0 ∨ j = 1 ∨ j = 2 ∨ j = 3 ∨ j = 4 ∨ j = 5 by omega) with rfl | rfl | rfl | rfl | rfl | rfl
  · exact hs (Cond.eq (.elem (.static "EmptyLand" "RATE_MOST" "[I") (.int 0)) (.int (20))) (by decide +kernel)
  · exact hs (Cond.eq (.elem (.static "EmptyLand" "RATE_MOST" "[I") (.int 1)) (.int (50))) (by decide +kernel)
  · exact hs (Cond.eq (.elem (.static "EmptyLand" "RATE_MOST" "[I") (.int 2)) (.int (50))) (by decide +kernel)
  · exact hs (Cond.eq (.elem (.static "EmptyLand" "RATE_MOST" "[I") (.int 3)) (.int (50))) (by decide +kernel)
  · exact hs (Cond.eq (.elem (.static "EmptyLand" "RATE_MOST" "[I") (.int 4)) (.int (9999))) (by decide +kernel)
  · exact hs (Cond.eq (.elem (.static "EmptyLand" "RATE_MOST" "[I") (.int 5)) (.int (9999999))) (by decide +kernel)
def zsT (i : Nat) : Term := match i with | 0 => .string "EmptyLand$Rule" 31 | 1 => .string "EmptyLand$Rule" 33 | _ => .string "EmptyLand$Rule" 35
def zsL : List Nat := [4, 3, 2]
def zsB : List (List Int32) := [tx 0, tx 1, tx 2]
theorem zs_tx : ∀ i, i < 3 → zsL.getD i 0 = (tx i).length ∧ zsB.getD i [] = tx i := by decide +kernel
theorem zs_str {args : Array Value} {s : State} {A : Nat → Prop} (hs : ∀ c ∈ zsG, c.before args s = true) (hA : ∀ a : Nat, a < s.heap.size → ¬ A a) : ∃ adK adV : Nat → Nat, vk_S 3 zsL zsB adK adV A s s.heap ∧ ∀ i : Nat, i < 3 → (zsT i).eval args s none [] s = some (.ref (adK i)) := by
  refine vk_Sof (by decide) (fun i hi => ?_) (fun i hi => ?_) (fun i hi => ?_) (fun i hi => ?_) (fun i hi j hj => ?_) (fun i j hi hj hij => ?_) hA
  · rcases (show i = 0 ∨ i = 1 ∨ i = 2 by omega) with rfl | rfl | rfl
    · exact hs (Cond.exactly (.string "EmptyLand$Rule" 31) "java/lang/String") (by decide +kernel)
    · exact hs (Cond.exactly (.string "EmptyLand$Rule" 33) "java/lang/String") (by decide +kernel)
    · exact hs (Cond.exactly (.string "EmptyLand$Rule" 35) "java/lang/String") (by decide +kernel)
  · rcases (show i = 0 ∨ i = 1 ∨ i = 2 by omega) with rfl | rfl | rfl
    · exact hs (Cond.eq (.field (.string "EmptyLand$Rule" 31) "java/lang/String" "coder" "B") (.int 0)) (by decide +kernel)
    · exact hs (Cond.eq (.field (.string "EmptyLand$Rule" 33) "java/lang/String" "coder" "B") (.int 0)) (by decide +kernel)
    · exact hs (Cond.eq (.field (.string "EmptyLand$Rule" 35) "java/lang/String" "coder" "B") (.int 0)) (by decide +kernel)
  · rcases (show i = 0 ∨ i = 1 ∨ i = 2 by omega) with rfl | rfl | rfl
    · exact hs (Cond.arrayOf (.field (.string "EmptyLand$Rule" 31) "java/lang/String" "value" "[B") .byte) (by decide +kernel)
    · exact hs (Cond.arrayOf (.field (.string "EmptyLand$Rule" 33) "java/lang/String" "value" "[B") .byte) (by decide +kernel)
    · exact hs (Cond.arrayOf (.field (.string "EmptyLand$Rule" 35) "java/lang/String" "value" "[B") .byte) (by decide +kernel)
  · rcases (show i = 0 ∨ i = 1 ∨ i = 2 by omega) with rfl | rfl | rfl
    · exact hs (Cond.eq (.length (.field (.string "EmptyLand$Rule" 31) "java/lang/String" "value" "[B")) (.int 4)) (by decide +kernel)
    · exact hs (Cond.eq (.length (.field (.string "EmptyLand$Rule" 33) "java/lang/String" "value" "[B")) (.int 3)) (by decide +kernel)
    · exact hs (Cond.eq (.length (.field (.string "EmptyLand$Rule" 35) "java/lang/String" "value" "[B")) (.int 2)) (by decide +kernel)
  · rcases (show i = 0 ∨ i = 1 ∨ i = 2 by omega) with rfl | rfl | rfl
    · have hj : j < 4 := hj
      rcases (show j = 0 ∨ j = 1 ∨ j = 2 ∨ j = 3 by omega) with rfl | rfl | rfl | rfl
      · exact hs (Cond.eq (.elem (.field (.string "EmptyLand$Rule" 31) "java/lang/String" "value" "[B") (.int 0)) (.int 117)) (by decide +kernel)
      · exact hs (Cond.eq (.elem (.field (.string "EmptyLand$Rule" 31) "java/lang/String" "value" "[B") (.int 1)) (.int 108)) (by decide +kernel)
      · exact hs (Cond.eq (.elem (.field (.string "EmptyLand$Rule" 31) "java/lang/String" "value" "[B") (.int 2)) (.int 99)) (by decide +kernel)
      · exact hs (Cond.eq (.elem (.field (.string "EmptyLand$Rule" 31) "java/lang/String" "value" "[B") (.int 3)) (.int 121)) (by decide +kernel)
    · have hj : j < 3 := hj
      rcases (show j = 0 ∨ j = 1 ∨ j = 2 by omega) with rfl | rfl | rfl
      · exact hs (Cond.eq (.elem (.field (.string "EmptyLand$Rule" 33) "java/lang/String" "value" "[B") (.int 0)) (.int 115)) (by decide +kernel)
      · exact hs (Cond.eq (.elem (.field (.string "EmptyLand$Rule" 33) "java/lang/String" "value" "[B") (.int 1)) (.int 119)) (by decide +kernel)
      · exact hs (Cond.eq (.elem (.field (.string "EmptyLand$Rule" 33) "java/lang/String" "value" "[B") (.int 2)) (.int 110)) (by decide +kernel)
    · have hj : j < 2 := hj
      rcases (show j = 0 ∨ j = 1 by omega) with rfl | rfl
      · exact hs (Cond.eq (.elem (.field (.string "EmptyLand$Rule" 35) "java/lang/String" "value" "[B") (.int 0)) (.int 119)) (by decide +kernel)
      · exact hs (Cond.eq (.elem (.field (.string "EmptyLand$Rule" 35) "java/lang/String" "value" "[B") (.int 1)) (.int 110)) (by decide +kernel)
  · rcases (show i = 0 ∨ i = 1 ∨ i = 2 by omega) with rfl | rfl | rfl
    · rcases (show j = 0 ∨ j = 1 ∨ j = 2 by omega) with rfl | rfl | rfl
      · exact absurd rfl hij
      · exact Or.inl (hs (Cond.not (Cond.eq (.string "EmptyLand$Rule" 31) (.string "EmptyLand$Rule" 33))) (by decide +kernel))
      · exact Or.inl (hs (Cond.not (Cond.eq (.string "EmptyLand$Rule" 31) (.string "EmptyLand$Rule" 35))) (by decide +kernel))
    · rcases (show j = 0 ∨ j = 1 ∨ j = 2 by omega) with rfl | rfl | rfl
      · exact Or.inr (hs (Cond.not (Cond.eq (.string "EmptyLand$Rule" 31) (.string "EmptyLand$Rule" 33))) (by decide +kernel))
      · exact absurd rfl hij
      · exact Or.inl (hs (Cond.not (Cond.eq (.string "EmptyLand$Rule" 33) (.string "EmptyLand$Rule" 35))) (by decide +kernel))
    · rcases (show j = 0 ∨ j = 1 ∨ j = 2 by omega) with rfl | rfl | rfl
      · exact Or.inr (hs (Cond.not (Cond.eq (.string "EmptyLand$Rule" 31) (.string "EmptyLand$Rule" 35))) (by decide +kernel))
      · exact Or.inr (hs (Cond.not (Cond.eq (.string "EmptyLand$Rule" 33) (.string "EmptyLand$Rule" 35))) (by decide +kernel))
      · exact absurd rfl hij
