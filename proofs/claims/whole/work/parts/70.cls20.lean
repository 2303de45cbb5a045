def usI (x y : Int32) : Int32 := (x.toUInt32 >>> (y.toUInt32 &&& Int32.toUInt32 31)).toInt32
def bc1 (x : Int32) : Int32 := x - (usI x (nI 1) &&& 1431655765)
def bc2 (x : Int32) : Int32 := (x &&& 858993459) + (usI x (nI 2) &&& 858993459)
def bc3 (x : Int32) : Int32 := (x + usI x (nI 4)) &&& 252645135
def bc4 (x : Int32) : Int32 := x + usI x (nI 8)
def bc5 (x : Int32) : Int32 := x + usI x (nI 16)
def bcR (x : Int32) : Int32 := bc5 (bc4 (bc3 (bc2 (bc1 x)))) &&& nI 63
/-- how many of the lowest n bits are 1 -/
def bcN (a : Nat) : Nat → Nat
  | 0 => 0
  | n + 1 => bcN a n + a / 2 ^ n % 2
theorem bc_ok : ∀ a, a < 1024 → bcR (nI a) = nI (bcN a 10) := by decide +kernel
theorem bc_or : ∀ t, t < 10 → ∀ m, m < 2 ^ t → nI m ||| nI 1 <<< (nI t &&& 31) = nI (m + 2 ^ t) ∧ bcN (m + 2 ^ t) 10 = bcN m 10 + 1 := by decide +kernel
set_option maxRecDepth 20000 in
theorem k_bits (D : En) {h : AH} (x : Int32) : Sp D 0 mJ6_bitCount_0f7a4 [.int x] h 0 0 (some (.int (bcR x))) (fun h' => h' = h) := by
  intro post hp
  show Ev D 0 mJ6_bitCount_0f7a4 0 [some (.int x)] [] h 0 0 post
  refine e_iload_n dJ6_bitCount_0f7a4_0 rfl ?_
  refine e_iload_n dJ6_bitCount_0f7a4_1 rfl ?_
  refine e_iconst (nI 1) dJ6_bitCount_0f7a4_2 (by decide) ?_
  refine e_iushr dJ6_bitCount_0f7a4_3 ?_
  refine e_ldcw dJ6_bitCount_0f7a4_4 w_965 ?_
  refine e_iand dJ6_bitCount_0f7a4_7 ?_
  refine e_isub dJ6_bitCount_0f7a4_8 ?_
  refine e_top (bc1 x) rfl ?_
  refine e_istore_n dJ6_bitCount_0f7a4_9 (by decide) ?_
  refine e_iload_n dJ6_bitCount_0f7a4_10 rfl ?_
  refine e_ldcw dJ6_bitCount_0f7a4_11 w_966 ?_
  refine e_iand dJ6_bitCount_0f7a4_14 ?_
  refine e_iload_n dJ6_bitCount_0f7a4_15 rfl ?_
  refine e_iconst (nI 2) dJ6_bitCount_0f7a4_16 (by decide) ?_
  refine e_iushr dJ6_bitCount_0f7a4_17 ?_
  refine e_ldcw dJ6_bitCount_0f7a4_18 w_966 ?_
  refine e_iand dJ6_bitCount_0f7a4_21 ?_
  refine e_iadd dJ6_bitCount_0f7a4_22 ?_
  refine e_top (bc2 (bc1 x)) rfl ?_
  refine e_istore_n dJ6_bitCount_0f7a4_23 (by decide) ?_
  refine e_iload_n dJ6_bitCount_0f7a4_24 rfl ?_
  refine e_iload_n dJ6_bitCount_0f7a4_25 rfl ?_
  refine e_iconst (nI 4) dJ6_bitCount_0f7a4_26 (by decide) ?_
  refine e_iushr dJ6_bitCount_0f7a4_27 ?_
  refine e_iadd dJ6_bitCount_0f7a4_28 ?_
  refine e_ldcw dJ6_bitCount_0f7a4_29 w_967 ?_
  refine e_iand dJ6_bitCount_0f7a4_32 ?_
  refine e_top (bc3 (bc2 (bc1 x))) rfl ?_
  refine e_istore_n dJ6_bitCount_0f7a4_33 (by decide) ?_
  refine e_iload_n dJ6_bitCount_0f7a4_34 rfl ?_
  refine e_iload_n dJ6_bitCount_0f7a4_35 rfl ?_
  refine e_bipush (nI 8) dJ6_bitCount_0f7a4_36 (by decide) ?_
  refine e_iushr dJ6_bitCount_0f7a4_38 ?_
  refine e_iadd dJ6_bitCount_0f7a4_39 ?_
  refine e_top (bc4 (bc3 (bc2 (bc1 x)))) rfl ?_
  refine e_istore_n dJ6_bitCount_0f7a4_40 (by decide) ?_
  refine e_iload_n dJ6_bitCount_0f7a4_41 rfl ?_
  refine e_iload_n dJ6_bitCount_0f7a4_42 rfl ?_
  refine e_bipush (nI 16) dJ6_bitCount_0f7a4_43 (by decide) ?_
  refine e_iushr dJ6_bitCount_0f7a4_45 ?_
  refine e_iadd dJ6_bitCount_0f7a4_46 ?_
  refine e_top (bc5 (bc4 (bc3 (bc2 (bc1 x))))) rfl ?_
  refine e_istore_n dJ6_bitCount_0f7a4_47 (by decide) ?_
  refine e_iload_n dJ6_bitCount_0f7a4_48 rfl ?_
  refine e_bipush (nI 63) dJ6_bitCount_0f7a4_49 (by decide) ?_
  refine e_iand dJ6_bitCount_0f7a4_51 ?_
  exact e_iret dJ6_bitCount_0f7a4_52 rfl (hp _ rfl)
