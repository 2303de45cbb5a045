theorem k_addV8 (D : En) {h : AH} {a : Nat} {N : Nat → Int32} (hL : LandAt h a N) (hI : IN N) (p y g o : Int32) (hv : 8 ≤ nvN N) : Sp D 5 mX4_addVillage [.ref a, .int p, .int y, .int g, .int o] h 0 0 (some (.int (-1))) (fun h' => h' = h) := by
  have hnv := hI.1.2.1
  intro post hp
  show Ev D 5 mX4_addVillage 0 [some (.ref a), some (.int p), some (.int y), some (.int g), some (.int o), none] [] h 0 0 post
  refine e_aload_n dX4_addVillage_0 rfl ?_
  refine e_get dX4_addVillage_1 fl_X4_18_4 hL.1 rfl ?_
  refine e_top (nI (nvN N)) hI.1.1 ?_
  refine e_istore dX4_addVillage_4 (by decide) ?_
  refine e_iload dX4_addVillage_6 rfl ?_
  refine e_bipush (nI 8) dX4_addVillage_8 (by decide) ?_
  refine e_icmp_ltN 15 dX4_addVillage_10 (by decide) (by omega) (by omega) (fun hc => absurd hc (by omega)) (fun hc => ?_)
  refine e_iconst (-1) dX4_addVillage_13 (by decide) ?_
  exact e_iret dX4_addVillage_14 rfl (hp _ rfl)
theorem k_addT10 (D : En) {h : AH} {a b : Nat} {N : Nat → Int32} (hL : LandAt h a N) (hI : IN N) (ht : 10 ≤ tcN N) : Sp D 5 mX4_addThing [.ref a, .ref b] h 0 0 (some (.int (-1))) (fun h' => h' = h) := by
  have htc := hI.1.2.2.2.1
  intro post hp
  show Ev D 5 mX4_addThing 0 [some (.ref a), some (.ref b), none] [] h 0 0 post
  refine e_aload_n dX4_addThing_0 rfl ?_
  refine e_get dX4_addThing_1 fl_X4_21_4 hL.1 rfl ?_
  refine e_top (nI (tcN N)) hI.1.2.2.1 ?_
  refine e_istore_n dX4_addThing_4 (by decide) ?_
  refine e_iload_n dX4_addThing_5 rfl ?_
  refine e_bipush (nI 10) dX4_addThing_6 (by decide) ?_
  refine e_icmp_ltN 13 dX4_addThing_8 (by decide) (by omega) (by omega) (fun hc => absurd hc (by omega)) (fun hc => ?_)
  refine e_iconst (-1) dX4_addThing_11 (by decide) ?_
  exact e_iret dX4_addThing_12 rfl (hp _ rfl)
