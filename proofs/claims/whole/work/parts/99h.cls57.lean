def R_law : String := "EmptyLandLaw"
def lw_P (b : Addr) (xs : List Int32) (args : Array Value) (s : State) : Prop := args = #[.ref b] ∧ s.IntsAt b xs ∧ xs.length ≤ 384 ∧ (Jvm.Cond.and given_1 narrow_1).before args s = true
def lw_Q (_ : Array Value) (s : State) (o : Outcome) (t : State) : Prop := o = .returned (some (.int 1)) ∧ Framed s o t [] 600000 7302250
def lw_Z (below : List Frame) (a : Array Value) (s : State) : State → Prop := fun t => ∃ o, t.status = .running ∧ Ended t below o ∧ lw_Q a s o t
def lw_At (p : Program) (s : State) (m : MethodId) (meth : Method) (c : Code) (b L : Nat) (xs : Nat → Int32) : Prop :=
  p.tables.exec = Jvm.exec ∧ c.code = code ∧ meth.sig.returnType = ret ∧ c.maxLocals = 4 ∧ s.vm.findClass R_law = some m.cls ∧ (∀ w ∈ lw_tbl, w.before #[Value.ref b] s = true) ∧ va_X b L xs s s.heap ∧ b < s.heap.size ∧ meth.locks = false ∧ (Jvm.Cond.and given_1 narrow_1).before #[Value.ref b] s = true ∧ meth.name = "law"
theorem zs_w {args : Array Value} {s : State} (hts : ∀ w ∈ lw_tbl, w.before args s = true) (i : Nat) {w : Cond} (h : lw_tbl[i]? = some w) : w.before args s = true := hts w (List.mem_of_getElem? h)
def zsX (b t1 t2 t3 t10 : Nat) (adK adV : Nat → Nat) (k : Nat) : Nat := match k with | 0 => b | 1 => t1 | 2 => t2 | 3 => t3 | 4 => adK 0 | 5 => adK 1 | 6 => adK 2 | 7 => adV 0 | 8 => adV 1 | 9 => adV 2 | _ => t10
def zsC (c0 c1 c2 c3 c4 : ClassId) (k : Nat) : ClassId := match k with | 0 => c0 | 1 => c1 | 2 => c2 | 3 => c3 | _ => c4
def zsH (L : Nat) (xs : Nat → Int32) : AH := [.inl (6, L, .inl xs), .inl (6, 6, .inl rLo), .inl (6, 6, .inl rHi), .inl (6, 6, .inl fFi), .inr (13, [.ref 7, .int 0]), .inr (13, [.ref 8, .int 0]), .inr (13, [.ref 9, .int 0]), .inl (5, (tx 0).length, .inl (fun j => (tx 0).getD j 0)), .inl (5, (tx 1).length, .inl (fun j => (tx 1).getD j 0)), .inl (5, (tx 2).length, .inl (fun j => (tx 2).getD j 0)), .inl (7, 0, .inr (.inr (.inr (.inr (fun _ => none)))))]
theorem zsH_XH (L : Nat) (xs : Nat → Int32) : XH (zsH L xs) := by
  intro i hi
  rcases (show i = 0 ∨ i = 1 ∨ i = 2 by omega) with rfl | rfl | rfl <;> exact ⟨rfl, rfl⟩
theorem zsH_CX (L : Nat) (xs : Nat → Int32) : CX (zsH L xs) := ⟨zsH_XH L xs, ⟨_, rfl, fun _ _ => rfl⟩, ⟨_, rfl, fun _ _ => rfl⟩⟩
theorem zsH_NR (L : Nat) (xs : Nat → Int32) : NR (zsH L xs) := by
  intro r fs h
  have hr : r < 11 := (List.getElem?_eq_some_iff.mp h).1
  rcases (show r = 0 ∨ r = 1 ∨ r = 2 ∨ r = 3 ∨ r = 4 ∨ r = 5 ∨ r = 6 ∨ r = 7 ∨ r = 8 ∨ r = 9 ∨ r = 10 by omega) with rfl | rfl | rfl | rfl | rfl | rfl | rfl | rfl | rfl | rfl | rfl <;> cases h
theorem zs_run (D : En) {L : Nat} {xs : Nat → Int32} (hL : L ≤ 384) : Ev D 50 mL_law 0 [some (.ref 0), none, none, none] [] (zsH L xs) 346 9458 (fun v _ => v = some (.int (nI 1))) :=
  lw_all D hL (fun _ => rfl) rfl rfl (zsH_CX L xs) rfl fFi_N0 (zsH_NR L xs)
theorem zs_arr {args : Array Value} {s : State} {C : String} (h : (Cond.arrayOver (.object C)).before args s = true) : ∃ cA : ClassId, ArrOfT s cA (.object C) ∧ va_RA s cA (.object C) := by
  obtain ⟨comp, c, k, h1, h2, h3, h4, h5⟩ := Cond.arrayOver_spec h
  exact ⟨c, fun N z => ⟨(fun k h => by cases h), k, h3, comp, h4⟩, k, comp, h3, h4, h1, h5⟩
theorem zs_arrI {args : Array Value} {s : State} (h : (Cond.arrayClass .int).before args s = true) : ∃ cA : ClassId, ArrOfT s cA .int ∧ s.vm.findClass "[I" = some cA := by
  obtain ⟨c, k, comp, h1, h2, h3⟩ := Cond.arrayClass_spec h
  exact ⟨c, fun N z => ⟨(fun k h => by cases h), k, h2, comp, h3⟩, h1⟩
theorem zs_cls {args : Array Value} {s : State} (htG : ∀ w ∈ tG, w.before args s = true) : ∃ (dC : Nat → ClassId) (dI : Nat → Nat → Nat), ∀ (k : Nat) (q : vw_C), vwCl[k]? = some q → u_Kn s q.1 q.2.1 q.2.2 (dC k) (dI k) := by
  obtain ⟨c0, i0, k0⟩ := u_known (C := RX0) (T := TX0) (N := 5) (n := 5) htG us_0 (htG _ w_467)
  obtain ⟨c1, i1, k1⟩ := u_known (C := RX1) (T := TX1) (N := 5) (n := 5) htG us_1 (htG _ w_444)
  obtain ⟨c2, i2, k2⟩ := u_known (C := RX2) (T := TX2) (N := 4) (n := 4) htG us_2 (htG _ w_103)
  obtain ⟨c3, i3, k3⟩ := u_known (C := RX3) (T := TX3) (N := 5) (n := 5) htG us_3 (htG _ w_432)
  obtain ⟨c4, i4, k4⟩ := u_known (C := RX4) (T := TX4) (N := 16) (n := 16) htG us_4 (htG _ w_109)
  obtain ⟨c5, i5, k5⟩ := u_known (C := RX5) (T := TX5) (N := 3) (n := 3) htG us_5 (htG _ w_196)
  obtain ⟨c6, i6, k6⟩ := u_known (C := RX6) (T := TX6) (N := 5) (n := 5) htG us_6 (htG _ w_661)
  obtain ⟨c7, i7, k7⟩ := u_known (C := RX7) (T := TX7) (N := 5) (n := 5) htG us_7 (htG _ w_387)
  obtain ⟨c8, i8, k8⟩ := u_known (C := RX8) (T := TX8) (N := 5) (n := 5) htG us_8 (htG _ w_420)
  obtain ⟨c9, i9, k9⟩ := u_known (C := RX9) (T := TX9) (N := 5) (n := 5) htG us_9 (htG _ w_479)
  obtain ⟨c10, i10, k10⟩ := u_known (C := RX10) (T := TX10) (N := 5) (n := 5) htG us_10 (htG _ w_456)
  obtain ⟨c11, i11, k11⟩ := u_known (C := RX11) (T := TX11) (N := 8) (n := 8) htG us_11 (htG _ w_95)
  obtain ⟨c12, i12, k12⟩ := u_known (C := RX12) (T := TX12) (N := 26) (n := 26) htG us_12 (htG _ w_1189)
  refine ⟨fun k => match k with | 0 => c0 | 1 => c1 | 2 => c2 | 3 => c3 | 4 => c4 | 5 => c5 | 6 => c6 | 7 => c7 | 8 => c8 | 9 => c9 | 10 => c10 | 11 => c11 | _ => c12, fun k => match k with | 0 => i0 | 1 => i1 | 2 => i2 | 3 => i3 | 4 => i4 | 5 => i5 | 6 => i6 | 7 => i7 | 8 => i8 | 9 => i9 | 10 => i10 | 11 => i11 | _ => i12, ?_⟩
  intro k q hq
  have hk : k < 13 := (List.getElem?_eq_some_iff.mp hq).1
  rcases (show k = 0 ∨ k = 1 ∨ k = 2 ∨ k = 3 ∨ k = 4 ∨ k = 5 ∨ k = 6 ∨ k = 7 ∨ k = 8 ∨ k = 9 ∨ k = 10 ∨ k = 11 ∨ k = 12 by omega) with rfl | rfl | rfl | rfl | rfl | rfl | rfl | rfl | rfl | rfl | rfl | rfl | rfl
  · cases hq; exact k0
  · cases hq; exact k1
  · cases hq; exact k2
  · cases hq; exact k3
  · cases hq; exact k4
  · cases hq; exact k5
  · cases hq; exact k6
  · cases hq; exact k7
  · cases hq; exact k8
  · cases hq; exact k9
  · cases hq; exact k10
  · cases hq; exact k11
  · cases hq; exact k12
