/-! a text's reading: (place, wrong, codes) -/
abbrev PT : Type := Nat × Bool × List Nat
def hrP (tp : Nat → Int32) (L : Nat) (s : PT) : Int32 := if s.2.1 = false ∧ s.1 < L then tp s.1 else -1
def adP (s : PT) : PT := (s.1 + 1, s.2)
def wrP (s : PT) : PT := (s.1, true, s.2.2)
def cdP (q : Nat) (s : PT) : PT := if s.2.1 = true then s else (s.1, s.2.1, s.2.2 ++ [q])
def lpP (tp : Nat → Int32) (L : Nat) (p : Int32 → Nat) (f : PT → PT) : Nat → PT → PT
  | 0, s => s
  | k + 1, s => if p (hrP tp L s) = 0 then s else lpP tp L p f k (cdP (p (hrP tp L s)) (f (adP s)))
def lvP (tp : Nat → Int32) (L : Nat) (p : Int32 → Nat) (f : PT → PT) (k : Nat) (s : PT) : PT := lpP tp L p f k (f s)
def oOr (c : Int32) : Nat := if c = nI 124 then 20000 else 0
def oAn (c : Int32) : Nat := if c = nI 38 then 20001 else 0
def oCm (c : Int32) : Nat := if c = nI 60 then 20002 else if c = nI 61 then 20003 else if c = nI 62 then 20004 else 0
def oSu (c : Int32) : Nat := if c = nI 43 then 20005 else if c = nI 45 then 20006 else 0
def oPr (c : Int32) : Nat := if c = nI 42 then 20007 else if c = nI 47 then 20008 else if c = nI 37 then 20009 else 0
def nmI (u : Nat) (c : Int32) : Nat := if u = 0 then (if c = 117 then 0 else if c = 108 then 1 else if c = 99 then 2 else if c = 121 then 3 else 9) else if u = 1 then (if c = 115 then 0 else if c = 119 then 1 else if c = 110 then 2 else 9) else (if c = 119 then 0 else if c = 110 then 1 else 9)
def dgP (tp : Nat → Int32) (L : Nat) : Nat → Nat → PT → PT
  | 0, v, s => cdP v s
  | k + 1, v, s => if nI 48 ≤ hrP tp L s ∧ hrP tp L s ≤ nI 57 then dgP tp L k (10 * v + (hrP tp L s).toNatClampNeg - 48) (adP s) else cdP v s
def nmP (tp : Nat → Int32) (L u : Nat) (s : PT) : PT := if nmI u (hrP tp L s) = 9 then wrP s else adP (cdP (10000 + nmI u (hrP tp L s)) s)
def onB (tp : Nat → Int32) (L u : Nat) (a b : PT) (s : PT) : PT := if hrP tp L s = nI 33 then a else if hrP tp L s = nI 40 then b else if nI 48 ≤ hrP tp L s ∧ hrP tp L s ≤ nI 57 then dgP tp L 4 0 s else nmP tp L u s
def prW (tp : Nat → Int32) (L : Nat) (f : PT → PT) : PT → PT := lvP tp L oPr f 50
def suW (tp : Nat → Int32) (L : Nat) (f : PT → PT) : PT → PT := lvP tp L oSu (prW tp L f) 50
def cmW (tp : Nat → Int32) (L : Nat) (f : PT → PT) : PT → PT := lvP tp L oCm (suW tp L f) 1
def boW (tp : Nat → Int32) (L : Nat) (f : PT → PT) : PT → PT := lvP tp L oAn (cmW tp L f) 50
def eiW (tp : Nat → Int32) (L : Nat) (f : PT → PT) : PT → PT := lvP tp L oOr (boW tp L f) 50
def clP (tp : Nat → Int32) (L : Nat) (s : PT) : PT := if hrP tp L s = nI 41 then adP s else wrP s
def onP (tp : Nat → Int32) (L u : Nat) : Nat → PT → PT
  | 0 => fun s => onB tp L u (wrP s) (wrP s) s
  | q + 1 => fun s => onB tp L u (cdP 20010 (onP tp L u q (adP s))) (clP tp L (eiW tp L (onP tp L u q) (adP s))) s
def WQ (u q : Nat) : Prop := q < 20011 ∧ (u = 2 → ¬ (10002 ≤ q ∧ q < 20000))
def GR (L u : Nat) (s s' : PT) : Prop := s.1 ≤ s'.1 ∧ (s.1 ≤ L → s'.1 ≤ L) ∧ (s'.2.1 = false → s.2.1 = false ∧ ∃ w, s'.2.2 = s.2.2 ++ w ∧ w.length + s.1 ≤ s'.1 ∧ (∀ q, q ∈ w → WQ u q) ∧ ∀ a b c d st, ∃ v, stk a b c d w st = some (v :: st))
theorem stk_app (a b c d : Int32) (w1 w2 : List Nat) (st st1 : List Int32) (h : stk a b c d w1 st = some st1) : stk a b c d (w1 ++ w2) st = stk a b c d w2 st1 := by
  induction w1 generalizing st with
  | nil => cases h; rfl
  | cons q qs ih =>
    rw [List.cons_append, stk_cons]
    rw [stk_cons] at h
    split at h
    · rename_i z; rw [if_pos z]; exact ih _ h
    · rename_i z
      rw [if_neg z]
      split at h
      · rename_i z1
        rw [if_pos z1]
        cases st with
        | nil => cases h
        | cons x st => exact ih _ h
      · rename_i z1
        rw [if_neg z1]
        match st, h with
        | [], h => cases h
        | [_], h => cases h
        | y :: x :: st, h => exact ih _ h
theorem hrP_t {tp : Nat → Int32} {L : Nat} {s : PT} (h : ¬ hrP tp L s = -1) : s.2.1 = false ∧ s.1 < L := by
  unfold hrP at h
  split at h
  · assumption
  · exact absurd rfl h
theorem cdP_1 (q : Nat) (s : PT) : (cdP q s).1 = s.1 := by unfold cdP; split <;> rfl
theorem cdP_w (q : Nat) (s : PT) : (cdP q s).2.1 = s.2.1 := by unfold cdP; split <;> rfl
theorem cdP_c (q : Nat) (s : PT) (h : s.2.1 = false) : (cdP q s).2.2 = s.2.2 ++ [q] := by unfold cdP; rw [if_neg (by rw [h]; decide)]
theorem GR_lp {tp : Nat → Int32} {L u : Nat} {p : Int32 → Nat} {f : PT → PT} (hp : ∀ c, p c = 0 ∨ (20000 ≤ p c ∧ p c ≤ 20009)) (hp1 : p (-1) = 0) (hf : ∀ s, GR L u s (f s)) (s0 : PT) : ∀ (k : Nat) (s : PT), GR L u s0 s → GR L u s0 (lpP tp L p f k s) := by
  intro k
  induction k with
  | zero => intro s h; exact h
  | succ k ih =>
    intro s h
    unfold lpP
    split
    · exact h
    · rename_i z
      have z1 : ¬ hrP tp L s = -1 := fun e => z (by rw [e]; exact hp1)
      obtain ⟨zw, zl⟩ := hrP_t z1
      have zq : 20000 ≤ p (hrP tp L s) ∧ p (hrP tp L s) ≤ 20009 := by
        rcases hp (hrP tp L s) with e | e
        · exact absurd e z
        · exact e
      apply ih
      obtain ⟨f1, f2, f3⟩ := hf (adP s)
      obtain ⟨g1, g2, g3⟩ := h
      have e1 : (adP s).1 = s.1 + 1 := rfl
      refine ⟨by rw [cdP_1]; omega, fun y => by rw [cdP_1]; exact f2 (by rw [e1]; omega), fun y => ?_⟩
      rw [cdP_w] at y
      obtain ⟨_, w2, a1, a2, a3, a4⟩ := f3 y
      obtain ⟨b0, w1, b1, b2', b3, b4⟩ := g3 zw
      refine ⟨b0, w1 ++ (w2 ++ [p (hrP tp L s)]), ?_, ?_, ?_, ?_⟩
      · rw [cdP_c _ _ y, a1, show (adP s).2.2 = s.2.2 from rfl, b1]
        simp only [List.append_assoc]
      · rw [cdP_1]
        simp only [List.length_append, List.length_cons, List.length_nil]
        omega
      · intro q hq
        simp only [List.mem_append, List.mem_singleton] at hq
        rcases hq with hq | hq | hq
        · exact b3 q hq
        · exact a3 q hq
        · rw [hq]; exact ⟨by omega, fun _ => by omega⟩
      · intro a b c d st
        obtain ⟨v1, hv1⟩ := b4 a b c d st
        obtain ⟨v2, hv2⟩ := a4 a b c d (v1 :: st)
        refine ⟨doneR (p (hrP tp L s)) v1 v2, ?_⟩
        rw [stk_app _ _ _ _ _ _ _ _ hv1, stk_app _ _ _ _ _ _ _ _ hv2, stk_cons, if_neg (by omega), if_neg (by omega)]
        rfl
theorem GR_lv {tp : Nat → Int32} {L u : Nat} {p : Int32 → Nat} {f : PT → PT} (hp : ∀ c, p c = 0 ∨ (20000 ≤ p c ∧ p c ≤ 20009)) (hp1 : p (-1) = 0) (hf : ∀ s, GR L u s (f s)) (k : Nat) (s : PT) : GR L u s (lvP tp L p f k s) := GR_lp hp hp1 hf s k _ (hf s)
theorem ops_or (c : Int32) : oOr c = 0 ∨ (20000 ≤ oOr c ∧ oOr c ≤ 20009) := by unfold oOr; (repeat' split) <;> simp
theorem ops_an (c : Int32) : oAn c = 0 ∨ (20000 ≤ oAn c ∧ oAn c ≤ 20009) := by unfold oAn; (repeat' split) <;> simp
theorem ops_cm (c : Int32) : oCm c = 0 ∨ (20000 ≤ oCm c ∧ oCm c ≤ 20009) := by unfold oCm; (repeat' split) <;> simp
theorem ops_su (c : Int32) : oSu c = 0 ∨ (20000 ≤ oSu c ∧ oSu c ≤ 20009) := by unfold oSu; (repeat' split) <;> simp
theorem ops_pr (c : Int32) : oPr c = 0 ∨ (20000 ≤ oPr c ∧ oPr c ≤ 20009) := by unfold oPr; (repeat' split) <;> simp
theorem GR_pr {tp : Nat → Int32} {L u : Nat} {f : PT → PT} (hf : ∀ s, GR L u s (f s)) (s : PT) : GR L u s (prW tp L f s) := GR_lv ops_pr (by decide) hf 50 s
theorem GR_su {tp : Nat → Int32} {L u : Nat} {f : PT → PT} (hf : ∀ s, GR L u s (f s)) (s : PT) : GR L u s (suW tp L f s) := GR_lv ops_su (by decide) (GR_pr hf) 50 s
theorem GR_cm {tp : Nat → Int32} {L u : Nat} {f : PT → PT} (hf : ∀ s, GR L u s (f s)) (s : PT) : GR L u s (cmW tp L f s) := GR_lv ops_cm (by decide) (GR_su hf) 1 s
theorem GR_bo {tp : Nat → Int32} {L u : Nat} {f : PT → PT} (hf : ∀ s, GR L u s (f s)) (s : PT) : GR L u s (boW tp L f s) := GR_lv ops_an (by decide) (GR_cm hf) 50 s
theorem GR_ei {tp : Nat → Int32} {L u : Nat} {f : PT → PT} (hf : ∀ s, GR L u s (f s)) (s : PT) : GR L u s (eiW tp L f s) := GR_lv ops_or (by decide) (GR_bo hf) 50 s
theorem GR_wr (L u : Nat) (s : PT) : GR L u s (wrP s) := ⟨Nat.le_refl _, fun z => z, fun z => by cases z⟩
theorem dgP_G {tp : Nat → Int32} {L u : Nat} (s0 : PT) (h0 : s0.2.1 = false) : ∀ (k v : Nat) (s : PT), (s0.1 + 1 ≤ s.1 ∧ s.2.1 = false ∧ s.2.2 = s0.2.2 ∧ (s0.1 ≤ L → s.1 ≤ L) ∧ v < 10 ^ (4 - k)) → k ≤ 4 → GR L u s0 (dgP tp L k v s) := by
  intro k
  induction k with
  | zero =>
    intro v s ⟨a1, a2, a3, a4, a5⟩ _
    have a6 : v < 10000 := a5
    unfold dgP
    refine ⟨by rw [cdP_1]; omega, by rw [cdP_1]; exact a4, fun _ => ⟨h0, [v], by rw [cdP_c _ _ a2, a3], by rw [cdP_1]; simp only [List.length_cons, List.length_nil]; omega, ?_, ?_⟩⟩
    · intro q hq
      rw [List.mem_singleton] at hq
      rw [hq]
      exact ⟨by omega, fun _ => by omega⟩
    · intro a b c d st
      exact ⟨pushV a b c d v, by rw [stk_cons, if_pos (by omega)]; rfl⟩
  | succ k ih =>
    intro v s ⟨a1, a2, a3, a4, a5⟩ hk
    unfold dgP
    split
    · rename_i z
      have z1 : ¬ hrP tp L s = -1 := fun e => absurd z.1 (by rw [e]; decide)
      obtain ⟨_, zl⟩ := hrP_t z1
      apply ih
      · refine ⟨?_, a2, a3, fun _ => ?_, ?_⟩
        · show s0.1 + 1 ≤ s.1 + 1; omega
        · show s.1 + 1 ≤ L; omega
        · have hd : (hrP tp L s).toNatClampNeg ≤ 57 := by
            have := Int32.le_iff_toInt_le.mp z.2
            have e57 : (nI 57).toInt = 57 := by decide
            rw [e57] at this
            unfold Int32.toNatClampNeg
            omega
          have e : 10 ^ (4 - k) = 10 * 10 ^ (4 - (k + 1)) := by
            rw [show 4 - k = (4 - (k + 1)) + 1 by omega, Nat.pow_succ]; omega
          omega
      · omega
    · have hv : v < 10000 := Nat.lt_of_lt_of_le a5 (Nat.pow_le_pow_right (by decide) (show 4 - (k + 1) ≤ 4 by omega))
      refine ⟨by rw [cdP_1]; omega, by rw [cdP_1]; exact a4, fun _ => ⟨h0, [v], by rw [cdP_c _ _ a2, a3], by rw [cdP_1]; simp only [List.length_cons, List.length_nil]; omega, ?_, ?_⟩⟩
      · intro q hq
        rw [List.mem_singleton] at hq
        rw [hq]
        exact ⟨by omega, fun _ => by omega⟩
      · intro a b c d st
        exact ⟨pushV a b c d v, by rw [stk_cons, if_pos (by omega)]; rfl⟩
theorem nmI_m1 (u : Nat) : nmI u (-1) = 9 := by
  unfold nmI
  (repeat' split) <;> first | rfl | (exfalso; revert ‹_ = _›; decide)
theorem nmI_4 (u : Nat) (c : Int32) : nmI u c = 9 ∨ nmI u c < 4 := by
  unfold nmI
  (repeat' split) <;> simp
theorem nmI_2 (c : Int32) : nmI 2 c = 9 ∨ nmI 2 c < 2 := by
  unfold nmI
  rw [if_neg (by decide), if_neg (by decide)]
  (repeat' split) <;> simp
theorem GR_onB {tp : Nat → Int32} {L u : Nat} {a b s : PT} (ha : hrP tp L s = nI 33 → GR L u s a) (hb : hrP tp L s = nI 40 → GR L u s b) : GR L u s (onB tp L u a b s) := by
  unfold onB
  split
  · rename_i z; exact ha z
  · split
    · rename_i z; exact hb z
    · split
      · rename_i z
        have z1 : ¬ hrP tp L s = -1 := fun e => absurd z.1 (by rw [e]; decide)
        obtain ⟨zw, zl⟩ := hrP_t z1
        unfold dgP
        rw [if_pos z]
        have hd : (hrP tp L s).toNatClampNeg ≤ 57 := by
          have := Int32.le_iff_toInt_le.mp z.2
          have e57 : (nI 57).toInt = 57 := by decide
          rw [e57] at this
          unfold Int32.toNatClampNeg
          omega
        refine dgP_G s zw 3 _ (adP s) ⟨Nat.le_refl _, zw, rfl, fun _ => ?_, ?_⟩ (by decide)
        · show s.1 + 1 ≤ L; omega
        · show _ < 10; omega
      · unfold nmP
        split
        · exact GR_wr L u s
        · rename_i z
          have z1 : ¬ hrP tp L s = -1 := fun e => z (by rw [e]; exact nmI_m1 u)
          obtain ⟨zw, zl⟩ := hrP_t z1
          have z4 : nmI u (hrP tp L s) < 4 := by
            rcases nmI_4 u (hrP tp L s) with e | e
            · exact absurd e z
            · exact e
          have e1 : (adP (cdP (10000 + nmI u (hrP tp L s)) s)).1 = s.1 + 1 := by show (cdP _ _).1 + 1 = _; rw [cdP_1]
          refine ⟨by rw [e1]; omega, fun _ => by rw [e1]; omega, fun _ => ⟨zw, [10000 + nmI u (hrP tp L s)], cdP_c _ _ zw, by rw [e1]; simp only [List.length_cons, List.length_nil]; omega, ?_, ?_⟩⟩
          · intro q hq
            rw [List.mem_singleton] at hq
            rw [hq]
            refine ⟨by omega, fun e => ?_⟩
            subst e
            rcases nmI_2 (hrP tp L s) with e | e
            · exact absurd e z
            · omega
          · intro a b c d st
            exact ⟨pushV a b c d (10000 + nmI u (hrP tp L s)), by rw [stk_cons, if_pos (by omega)]; rfl⟩
theorem GR_cl {tp : Nat → Int32} {L u : Nat} {s x : PT} (zw : s.2.1 = false) (zl : s.1 < L) (h : GR L u (adP s) x) : GR L u s (clP tp L x) := by
  obtain ⟨f1, f2, f3⟩ := h
  have e1 : (adP s).1 = s.1 + 1 := rfl
  unfold clP
  split
  · rename_i y
    have y1 : ¬ hrP tp L x = -1 := by rw [y]; decide
    obtain ⟨yw, yl⟩ := hrP_t y1
    obtain ⟨_, w2, a1, a2, a3, a4⟩ := f3 yw
    have e2 : (adP x).1 = x.1 + 1 := rfl
    exact ⟨by rw [e2]; omega, fun _ => by rw [e2]; omega, fun _ => ⟨zw, w2, a1, by rw [e2]; omega, a3, a4⟩⟩
  · have e2 : (wrP x).1 = x.1 := rfl
    exact ⟨by rw [e2]; omega, fun _ => by rw [e2]; exact f2 (by rw [e1]; omega), fun y => by cases y⟩
theorem GR_on (tp : Nat → Int32) (L u : Nat) (q : Nat) : ∀ s, GR L u s (onP tp L u q s) := by
  induction q with
  | zero => intro s; exact GR_onB (fun _ => GR_wr L u s) (fun _ => GR_wr L u s)
  | succ q ih =>
    intro s
    refine GR_onB (fun z => ?_) (fun z => ?_)
    · have z1 : ¬ hrP tp L s = -1 := by rw [z]; decide
      obtain ⟨zw, zl⟩ := hrP_t z1
      obtain ⟨f1, f2, f3⟩ := ih (adP s)
      have e1 : (adP s).1 = s.1 + 1 := rfl
      refine ⟨by rw [cdP_1]; omega, fun _ => by rw [cdP_1]; exact f2 (by rw [e1]; omega), fun y => ?_⟩
      rw [cdP_w] at y
      obtain ⟨_, w2, a1, a2, a3, a4⟩ := f3 y
      refine ⟨zw, w2 ++ [20010], ?_, ?_, ?_, ?_⟩
      · rw [cdP_c _ _ y, a1, show (adP s).2.2 = s.2.2 from rfl]
        simp only [List.append_assoc]
      · rw [cdP_1]
        simp only [List.length_append, List.length_cons, List.length_nil]
        omega
      · intro q hq
        simp only [List.mem_append, List.mem_singleton] at hq
        rcases hq with hq | hq
        · exact a3 q hq
        · rw [hq]; exact ⟨by omega, fun _ => by omega⟩
      · intro a b c d st
        obtain ⟨v2, hv2⟩ := a4 a b c d st
        refine ⟨if v2 = 0 then nI 1 else nI 0, ?_⟩
        rw [stk_app _ _ _ _ _ _ _ _ hv2, stk_cons, if_neg (by omega), if_pos rfl]
        rfl
    · have z1 : ¬ hrP tp L s = -1 := by rw [z]; decide
      obtain ⟨zw, zl⟩ := hrP_t z1
      exact GR_cl zw zl (GR_ei ih (adP s))
/-- the whole text -/
def txP (tp : Nat → Int32) (L u : Nat) : PT := eiW tp L (onP tp L u 5) (0, false, [])
abbrev bad (tp : Nat → Int32) (L u : Nat) : Prop := (txP tp L u).2.1 = true ∨ (txP tp L u).1 < L
theorem GR_ok {L u : Nat} {x : PT} (h : GR L u (0, false, []) x) (hb : ¬ (x.2.1 = true ∨ x.1 < L)) : x.2.2.length ≤ L ∧ (∀ q, q ∈ x.2.2 → WQ u q) ∧ ∀ a b c d, ∃ v, stk a b c d x.2.2 [] = some [v] := by
  have hw : x.2.1 = false := by
    cases e : x.2.1 with
    | false => rfl
    | true => exact absurd (Or.inl e) hb
  obtain ⟨f1, f2, f3⟩ := h
  obtain ⟨_, w, a1, a2, a3, a4⟩ := f3 hw
  have e : x.2.2 = w := by rw [a1]; rfl
  have a2' : w.length + 0 ≤ x.1 := a2
  have f2' : x.1 ≤ L := f2 (Nat.zero_le _)
  refine ⟨?_, ?_, ?_⟩
  · rw [e]; omega
  · rw [e]; exact a3
  · intro a b c d; rw [e]; exact a4 a b c d []
theorem txP_ok {tp : Nat → Int32} {L u : Nat} (hb : ¬ bad tp L u) : (txP tp L u).2.2.length ≤ L ∧ (∀ q, q ∈ (txP tp L u).2.2 → WQ u q) ∧ ∀ a b c d, ∃ v, stk a b c d (txP tp L u).2.2 [] = some [v] := GR_ok (GR_ei (GR_on tp L u 5) (0, false, [])) hb
