set_option maxRecDepth 100000 in
set_option maxHeartbeats 4000000 in
theorem c_bce0 : ∀ b, b < 256 → ((((((((nI b) - ((((nI b).toUInt32 >>> ((1 : Int32).toUInt32 &&& Int32.toUInt32 31)).toInt32) &&& 1431655765)) &&& 858993459) + (((((nI b) - ((((nI b).toUInt32 >>> ((1 : Int32).toUInt32 &&& Int32.toUInt32 31)).toInt32) &&& 1431655765)).toUInt32 >>> ((2 : Int32).toUInt32 &&& Int32.toUInt32 31)).toInt32) &&& 858993459)) + ((((((nI b) - ((((nI b).toUInt32 >>> ((1 : Int32).toUInt32 &&& Int32.toUInt32 31)).toInt32) &&& 1431655765)) &&& 858993459) + (((((nI b) - ((((nI b).toUInt32 >>> ((1 : Int32).toUInt32 &&& Int32.toUInt32 31)).toInt32) &&& 1431655765)).toUInt32 >>> ((2 : Int32).toUInt32 &&& Int32.toUInt32 31)).toInt32) &&& 858993459)).toUInt32 >>> ((4 : Int32).toUInt32 &&& Int32.toUInt32 31)).toInt32)) &&& 252645135) + ((((((((nI b) - ((((nI b).toUInt32 >>> ((1 : Int32).toUInt32 &&& Int32.toUInt32 31)).toInt32) &&& 1431655765)) &&& 858993459) + (((((nI b) - ((((nI b).toUInt32 >>> ((1 : Int32).toUInt32 &&& Int32.toUInt32 31)).toInt32) &&& 1431655765)).toUInt32 >>> ((2 : Int32).toUInt32 &&& Int32.toUInt32 31)).toInt32) &&& 858993459)) + ((((((nI b) - ((((nI b).toUInt32 >>> ((1 : Int32).toUInt32 &&& Int32.toUInt32 31)).toInt32) &&& 1431655765)) &&& 858993459) + (((((nI b) - ((((nI b).toUInt32 >>> ((1 : Int32).toUInt32 &&& Int32.toUInt32 31)).toInt32) &&& 1431655765)).toUInt32 >>> ((2 : Int32).toUInt32 &&& Int32.toUInt32 31)).toInt32) &&& 858993459)).toUInt32 >>> ((4 : Int32).toUInt32 &&& Int32.toUInt32 31)).toInt32)) &&& 252645135).toUInt32 >>> ((8 : Int32).toUInt32 &&& Int32.toUInt32 31)).toInt32)) + (((((((((nI b) - ((((nI b).toUInt32 >>> ((1 : Int32).toUInt32 &&& Int32.toUInt32 31)).toInt32) &&& 1431655765)) &&& 858993459) + (((((nI b) - ((((nI b).toUInt32 >>> ((1 : Int32).toUInt32 &&& Int32.toUInt32 31)).toInt32) &&& 1431655765)).toUInt32 >>> ((2 : Int32).toUInt32 &&& Int32.toUInt32 31)).toInt32) &&& 858993459)) + ((((((nI b) - ((((nI b).toUInt32 >>> ((1 : Int32).toUInt32 &&& Int32.toUInt32 31)).toInt32) &&& 1431655765)) &&& 858993459) + (((((nI b) - ((((nI b).toUInt32 >>> ((1 : Int32).toUInt32 &&& Int32.toUInt32 31)).toInt32) &&& 1431655765)).toUInt32 >>> ((2 : Int32).toUInt32 &&& Int32.toUInt32 31)).toInt32) &&& 858993459)).toUInt32 >>> ((4 : Int32).toUInt32 &&& Int32.toUInt32 31)).toInt32)) &&& 252645135) + ((((((((nI b) - ((((nI b).toUInt32 >>> ((1 : Int32).toUInt32 &&& Int32.toUInt32 31)).toInt32) &&& 1431655765)) &&& 858993459) + (((((nI b) - ((((nI b).toUInt32 >>> ((1 : Int32).toUInt32 &&& Int32.toUInt32 31)).toInt32) &&& 1431655765)).toUInt32 >>> ((2 : Int32).toUInt32 &&& Int32.toUInt32 31)).toInt32) &&& 858993459)) + ((((((nI b) - ((((nI b).toUInt32 >>> ((1 : Int32).toUInt32 &&& Int32.toUInt32 31)).toInt32) &&& 1431655765)) &&& 858993459) + (((((nI b) - ((((nI b).toUInt32 >>> ((1 : Int32).toUInt32 &&& Int32.toUInt32 31)).toInt32) &&& 1431655765)).toUInt32 >>> ((2 : Int32).toUInt32 &&& Int32.toUInt32 31)).toInt32) &&& 858993459)).toUInt32 >>> ((4 : Int32).toUInt32 &&& Int32.toUInt32 31)).toInt32)) &&& 252645135).toUInt32 >>> ((8 : Int32).toUInt32 &&& Int32.toUInt32 31)).toInt32)).toUInt32 >>> ((16 : Int32).toUInt32 &&& Int32.toUInt32 31)).toInt32)) &&& 63 = nI (on b) := by decide +kernel
theorem c_bce {b : Nat} (hb : b < 256) : ((((((((nI b) - ((((nI b).toUInt32 >>> ((1 : Int32).toUInt32 &&& Int32.toUInt32 31)).toInt32) &&& 1431655765)) &&& 858993459) + (((((nI b) - ((((nI b).toUInt32 >>> ((1 : Int32).toUInt32 &&& Int32.toUInt32 31)).toInt32) &&& 1431655765)).toUInt32 >>> ((2 : Int32).toUInt32 &&& Int32.toUInt32 31)).toInt32) &&& 858993459)) + ((((((nI b) - ((((nI b).toUInt32 >>> ((1 : Int32).toUInt32 &&& Int32.toUInt32 31)).toInt32) &&& 1431655765)) &&& 858993459) + (((((nI b) - ((((nI b).toUInt32 >>> ((1 : Int32).toUInt32 &&& Int32.toUInt32 31)).toInt32) &&& 1431655765)).toUInt32 >>> ((2 : Int32).toUInt32 &&& Int32.toUInt32 31)).toInt32) &&& 858993459)).toUInt32 >>> ((4 : Int32).toUInt32 &&& Int32.toUInt32 31)).toInt32)) &&& 252645135) + ((((((((nI b) - ((((nI b).toUInt32 >>> ((1 : Int32).toUInt32 &&& Int32.toUInt32 31)).toInt32) &&& 1431655765)) &&& 858993459) + (((((nI b) - ((((nI b).toUInt32 >>> ((1 : Int32).toUInt32 &&& Int32.toUInt32 31)).toInt32) &&& 1431655765)).toUInt32 >>> ((2 : Int32).toUInt32 &&& Int32.toUInt32 31)).toInt32) &&& 858993459)) + ((((((nI b) - ((((nI b).toUInt32 >>> ((1 : Int32).toUInt32 &&& Int32.toUInt32 31)).toInt32) &&& 1431655765)) &&& 858993459) + (((((nI b) - ((((nI b).toUInt32 >>> ((1 : Int32).toUInt32 &&& Int32.toUInt32 31)).toInt32) &&& 1431655765)).toUInt32 >>> ((2 : Int32).toUInt32 &&& Int32.toUInt32 31)).toInt32) &&& 858993459)).toUInt32 >>> ((4 : Int32).toUInt32 &&& Int32.toUInt32 31)).toInt32)) &&& 252645135).toUInt32 >>> ((8 : Int32).toUInt32 &&& Int32.toUInt32 31)).toInt32)) + (((((((((nI b) - ((((nI b).toUInt32 >>> ((1 : Int32).toUInt32 &&& Int32.toUInt32 31)).toInt32) &&& 1431655765)) &&& 858993459) + (((((nI b) - ((((nI b).toUInt32 >>> ((1 : Int32).toUInt32 &&& Int32.toUInt32 31)).toInt32) &&& 1431655765)).toUInt32 >>> ((2 : Int32).toUInt32 &&& Int32.toUInt32 31)).toInt32) &&& 858993459)) + ((((((nI b) - ((((nI b).toUInt32 >>> ((1 : Int32).toUInt32 &&& Int32.toUInt32 31)).toInt32) &&& 1431655765)) &&& 858993459) + (((((nI b) - ((((nI b).toUInt32 >>> ((1 : Int32).toUInt32 &&& Int32.toUInt32 31)).toInt32) &&& 1431655765)).toUInt32 >>> ((2 : Int32).toUInt32 &&& Int32.toUInt32 31)).toInt32) &&& 858993459)).toUInt32 >>> ((4 : Int32).toUInt32 &&& Int32.toUInt32 31)).toInt32)) &&& 252645135) + ((((((((nI b) - ((((nI b).toUInt32 >>> ((1 : Int32).toUInt32 &&& Int32.toUInt32 31)).toInt32) &&& 1431655765)) &&& 858993459) + (((((nI b) - ((((nI b).toUInt32 >>> ((1 : Int32).toUInt32 &&& Int32.toUInt32 31)).toInt32) &&& 1431655765)).toUInt32 >>> ((2 : Int32).toUInt32 &&& Int32.toUInt32 31)).toInt32) &&& 858993459)) + ((((((nI b) - ((((nI b).toUInt32 >>> ((1 : Int32).toUInt32 &&& Int32.toUInt32 31)).toInt32) &&& 1431655765)) &&& 858993459) + (((((nI b) - ((((nI b).toUInt32 >>> ((1 : Int32).toUInt32 &&& Int32.toUInt32 31)).toInt32) &&& 1431655765)).toUInt32 >>> ((2 : Int32).toUInt32 &&& Int32.toUInt32 31)).toInt32) &&& 858993459)).toUInt32 >>> ((4 : Int32).toUInt32 &&& Int32.toUInt32 31)).toInt32)) &&& 252645135).toUInt32 >>> ((8 : Int32).toUInt32 &&& Int32.toUInt32 31)).toInt32)).toUInt32 >>> ((16 : Int32).toUInt32 &&& Int32.toUInt32 31)).toInt32)) &&& 63 = nI (on b) := c_bce0 b hb

set_option maxHeartbeats 4000000 in
set_option maxRecDepth 20000 in
theorem c_bitc {Q : am_P} {h : Nat → am_E} {n : Nat} {b : Nat} (hb : b < 256) (k : Q (some (.int (nI (on b)))) h n) : AW mJ6_bitCount_0f7a4 Q 0 (am_ent (am_l mJ6_bitCount_0f7a4) [.int (nI b)]) [] (h) n 0 0 := by
  show AW _ _ 0 [some (.int (nI b))] [] _ _ 0 0
  refine r_iload_n 1 rfl 0 dJ6_bitCount_0f7a4_0 rfl rfl ?_
  refine r_iload_n 2 rfl 0 dJ6_bitCount_0f7a4_1 rfl rfl ?_
  refine r_iconst 3 rfl 1 dJ6_bitCount_0f7a4_2 rfl ?_
  refine r_iushr 4 rfl dJ6_bitCount_0f7a4_3 ?_
  refine r_ldc_w 7 rfl 1431655765 dJ6_bitCount_0f7a4_4 (cn_J6_265 rfl) ?_
  refine r_iand 8 rfl dJ6_bitCount_0f7a4_7 ?_
  refine r_isub 9 rfl dJ6_bitCount_0f7a4_8 ?_
  refine r_istore_n 10 rfl 0 [some (.int ((nI b) - ((((nI b).toUInt32 >>> ((1 : Int32).toUInt32 &&& Int32.toUInt32 31)).toInt32) &&& 1431655765)))] dJ6_bitCount_0f7a4_9 rfl (by decide) rfl ?_
  refine r_iload_n 11 rfl 0 dJ6_bitCount_0f7a4_10 rfl rfl ?_
  refine r_ldc_w 14 rfl 858993459 dJ6_bitCount_0f7a4_11 (cn_J6_266 rfl) ?_
  refine r_iand 15 rfl dJ6_bitCount_0f7a4_14 ?_
  refine r_iload_n 16 rfl 0 dJ6_bitCount_0f7a4_15 rfl rfl ?_
  refine r_iconst 17 rfl 2 dJ6_bitCount_0f7a4_16 rfl ?_
  refine r_iushr 18 rfl dJ6_bitCount_0f7a4_17 ?_
  refine r_ldc_w 21 rfl 858993459 dJ6_bitCount_0f7a4_18 (cn_J6_266 rfl) ?_
  refine r_iand 22 rfl dJ6_bitCount_0f7a4_21 ?_
  refine r_iadd 23 rfl dJ6_bitCount_0f7a4_22 ?_
  refine r_istore_n 24 rfl 0 [some (.int ((((nI b) - ((((nI b).toUInt32 >>> ((1 : Int32).toUInt32 &&& Int32.toUInt32 31)).toInt32) &&& 1431655765)) &&& 858993459) + (((((nI b) - ((((nI b).toUInt32 >>> ((1 : Int32).toUInt32 &&& Int32.toUInt32 31)).toInt32) &&& 1431655765)).toUInt32 >>> ((2 : Int32).toUInt32 &&& Int32.toUInt32 31)).toInt32) &&& 858993459)))] dJ6_bitCount_0f7a4_23 rfl (by decide) rfl ?_
  refine r_iload_n 25 rfl 0 dJ6_bitCount_0f7a4_24 rfl rfl ?_
  refine r_iload_n 26 rfl 0 dJ6_bitCount_0f7a4_25 rfl rfl ?_
  refine r_iconst 27 rfl 4 dJ6_bitCount_0f7a4_26 rfl ?_
  refine r_iushr 28 rfl dJ6_bitCount_0f7a4_27 ?_
  refine r_iadd 29 rfl dJ6_bitCount_0f7a4_28 ?_
  refine r_ldc_w 32 rfl 252645135 dJ6_bitCount_0f7a4_29 (cn_J6_267 rfl) ?_
  refine r_iand 33 rfl dJ6_bitCount_0f7a4_32 ?_
  refine r_istore_n 34 rfl 0 [some (.int ((((((nI b) - ((((nI b).toUInt32 >>> ((1 : Int32).toUInt32 &&& Int32.toUInt32 31)).toInt32) &&& 1431655765)) &&& 858993459) + (((((nI b) - ((((nI b).toUInt32 >>> ((1 : Int32).toUInt32 &&& Int32.toUInt32 31)).toInt32) &&& 1431655765)).toUInt32 >>> ((2 : Int32).toUInt32 &&& Int32.toUInt32 31)).toInt32) &&& 858993459)) + ((((((nI b) - ((((nI b).toUInt32 >>> ((1 : Int32).toUInt32 &&& Int32.toUInt32 31)).toInt32) &&& 1431655765)) &&& 858993459) + (((((nI b) - ((((nI b).toUInt32 >>> ((1 : Int32).toUInt32 &&& Int32.toUInt32 31)).toInt32) &&& 1431655765)).toUInt32 >>> ((2 : Int32).toUInt32 &&& Int32.toUInt32 31)).toInt32) &&& 858993459)).toUInt32 >>> ((4 : Int32).toUInt32 &&& Int32.toUInt32 31)).toInt32)) &&& 252645135))] dJ6_bitCount_0f7a4_33 rfl (by decide) rfl ?_
  refine r_iload_n 35 rfl 0 dJ6_bitCount_0f7a4_34 rfl rfl ?_
  refine r_iload_n 36 rfl 0 dJ6_bitCount_0f7a4_35 rfl rfl ?_
  refine r_bipush 38 rfl 8 dJ6_bitCount_0f7a4_36 (by decide) ?_
  refine r_iushr 39 rfl dJ6_bitCount_0f7a4_38 ?_
  refine r_iadd 40 rfl dJ6_bitCount_0f7a4_39 ?_
  refine r_istore_n 41 rfl 0 [some (.int (((((((nI b) - ((((nI b).toUInt32 >>> ((1 : Int32).toUInt32 &&& Int32.toUInt32 31)).toInt32) &&& 1431655765)) &&& 858993459) + (((((nI b) - ((((nI b).toUInt32 >>> ((1 : Int32).toUInt32 &&& Int32.toUInt32 31)).toInt32) &&& 1431655765)).toUInt32 >>> ((2 : Int32).toUInt32 &&& Int32.toUInt32 31)).toInt32) &&& 858993459)) + ((((((nI b) - ((((nI b).toUInt32 >>> ((1 : Int32).toUInt32 &&& Int32.toUInt32 31)).toInt32) &&& 1431655765)) &&& 858993459) + (((((nI b) - ((((nI b).toUInt32 >>> ((1 : Int32).toUInt32 &&& Int32.toUInt32 31)).toInt32) &&& 1431655765)).toUInt32 >>> ((2 : Int32).toUInt32 &&& Int32.toUInt32 31)).toInt32) &&& 858993459)).toUInt32 >>> ((4 : Int32).toUInt32 &&& Int32.toUInt32 31)).toInt32)) &&& 252645135) + ((((((((nI b) - ((((nI b).toUInt32 >>> ((1 : Int32).toUInt32 &&& Int32.toUInt32 31)).toInt32) &&& 1431655765)) &&& 858993459) + (((((nI b) - ((((nI b).toUInt32 >>> ((1 : Int32).toUInt32 &&& Int32.toUInt32 31)).toInt32) &&& 1431655765)).toUInt32 >>> ((2 : Int32).toUInt32 &&& Int32.toUInt32 31)).toInt32) &&& 858993459)) + ((((((nI b) - ((((nI b).toUInt32 >>> ((1 : Int32).toUInt32 &&& Int32.toUInt32 31)).toInt32) &&& 1431655765)) &&& 858993459) + (((((nI b) - ((((nI b).toUInt32 >>> ((1 : Int32).toUInt32 &&& Int32.toUInt32 31)).toInt32) &&& 1431655765)).toUInt32 >>> ((2 : Int32).toUInt32 &&& Int32.toUInt32 31)).toInt32) &&& 858993459)).toUInt32 >>> ((4 : Int32).toUInt32 &&& Int32.toUInt32 31)).toInt32)) &&& 252645135).toUInt32 >>> ((8 : Int32).toUInt32 &&& Int32.toUInt32 31)).toInt32)))] dJ6_bitCount_0f7a4_40 rfl (by decide) rfl ?_
  refine r_iload_n 42 rfl 0 dJ6_bitCount_0f7a4_41 rfl rfl ?_
  refine r_iload_n 43 rfl 0 dJ6_bitCount_0f7a4_42 rfl rfl ?_
  refine r_bipush 45 rfl 16 dJ6_bitCount_0f7a4_43 (by decide) ?_
  refine r_iushr 46 rfl dJ6_bitCount_0f7a4_45 ?_
  refine r_iadd 47 rfl dJ6_bitCount_0f7a4_46 ?_
  refine r_istore_n 48 rfl 0 [some (.int ((((((((nI b) - ((((nI b).toUInt32 >>> ((1 : Int32).toUInt32 &&& Int32.toUInt32 31)).toInt32) &&& 1431655765)) &&& 858993459) + (((((nI b) - ((((nI b).toUInt32 >>> ((1 : Int32).toUInt32 &&& Int32.toUInt32 31)).toInt32) &&& 1431655765)).toUInt32 >>> ((2 : Int32).toUInt32 &&& Int32.toUInt32 31)).toInt32) &&& 858993459)) + ((((((nI b) - ((((nI b).toUInt32 >>> ((1 : Int32).toUInt32 &&& Int32.toUInt32 31)).toInt32) &&& 1431655765)) &&& 858993459) + (((((nI b) - ((((nI b).toUInt32 >>> ((1 : Int32).toUInt32 &&& Int32.toUInt32 31)).toInt32) &&& 1431655765)).toUInt32 >>> ((2 : Int32).toUInt32 &&& Int32.toUInt32 31)).toInt32) &&& 858993459)).toUInt32 >>> ((4 : Int32).toUInt32 &&& Int32.toUInt32 31)).toInt32)) &&& 252645135) + ((((((((nI b) - ((((nI b).toUInt32 >>> ((1 : Int32).toUInt32 &&& Int32.toUInt32 31)).toInt32) &&& 1431655765)) &&& 858993459) + (((((nI b) - ((((nI b).toUInt32 >>> ((1 : Int32).toUInt32 &&& Int32.toUInt32 31)).toInt32) &&& 1431655765)).toUInt32 >>> ((2 : Int32).toUInt32 &&& Int32.toUInt32 31)).toInt32) &&& 858993459)) + ((((((nI b) - ((((nI b).toUInt32 >>> ((1 : Int32).toUInt32 &&& Int32.toUInt32 31)).toInt32) &&& 1431655765)) &&& 858993459) + (((((nI b) - ((((nI b).toUInt32 >>> ((1 : Int32).toUInt32 &&& Int32.toUInt32 31)).toInt32) &&& 1431655765)).toUInt32 >>> ((2 : Int32).toUInt32 &&& Int32.toUInt32 31)).toInt32) &&& 858993459)).toUInt32 >>> ((4 : Int32).toUInt32 &&& Int32.toUInt32 31)).toInt32)) &&& 252645135).toUInt32 >>> ((8 : Int32).toUInt32 &&& Int32.toUInt32 31)).toInt32)) + (((((((((nI b) - ((((nI b).toUInt32 >>> ((1 : Int32).toUInt32 &&& Int32.toUInt32 31)).toInt32) &&& 1431655765)) &&& 858993459) + (((((nI b) - ((((nI b).toUInt32 >>> ((1 : Int32).toUInt32 &&& Int32.toUInt32 31)).toInt32) &&& 1431655765)).toUInt32 >>> ((2 : Int32).toUInt32 &&& Int32.toUInt32 31)).toInt32) &&& 858993459)) + ((((((nI b) - ((((nI b).toUInt32 >>> ((1 : Int32).toUInt32 &&& Int32.toUInt32 31)).toInt32) &&& 1431655765)) &&& 858993459) + (((((nI b) - ((((nI b).toUInt32 >>> ((1 : Int32).toUInt32 &&& Int32.toUInt32 31)).toInt32) &&& 1431655765)).toUInt32 >>> ((2 : Int32).toUInt32 &&& Int32.toUInt32 31)).toInt32) &&& 858993459)).toUInt32 >>> ((4 : Int32).toUInt32 &&& Int32.toUInt32 31)).toInt32)) &&& 252645135) + ((((((((nI b) - ((((nI b).toUInt32 >>> ((1 : Int32).toUInt32 &&& Int32.toUInt32 31)).toInt32) &&& 1431655765)) &&& 858993459) + (((((nI b) - ((((nI b).toUInt32 >>> ((1 : Int32).toUInt32 &&& Int32.toUInt32 31)).toInt32) &&& 1431655765)).toUInt32 >>> ((2 : Int32).toUInt32 &&& Int32.toUInt32 31)).toInt32) &&& 858993459)) + ((((((nI b) - ((((nI b).toUInt32 >>> ((1 : Int32).toUInt32 &&& Int32.toUInt32 31)).toInt32) &&& 1431655765)) &&& 858993459) + (((((nI b) - ((((nI b).toUInt32 >>> ((1 : Int32).toUInt32 &&& Int32.toUInt32 31)).toInt32) &&& 1431655765)).toUInt32 >>> ((2 : Int32).toUInt32 &&& Int32.toUInt32 31)).toInt32) &&& 858993459)).toUInt32 >>> ((4 : Int32).toUInt32 &&& Int32.toUInt32 31)).toInt32)) &&& 252645135).toUInt32 >>> ((8 : Int32).toUInt32 &&& Int32.toUInt32 31)).toInt32)).toUInt32 >>> ((16 : Int32).toUInt32 &&& Int32.toUInt32 31)).toInt32)))] dJ6_bitCount_0f7a4_47 rfl (by decide) rfl ?_
  refine r_iload_n 49 rfl 0 dJ6_bitCount_0f7a4_48 rfl rfl ?_
  refine r_bipush 51 rfl 63 dJ6_bitCount_0f7a4_49 (by decide) ?_
  refine r_iand 52 rfl dJ6_bitCount_0f7a4_51 ?_
  refine r_ireturn rfl dJ6_bitCount_0f7a4_52 (Nat.le_of_ble_eq_true rfl) (Nat.le_of_ble_eq_true rfl) ?_
  rw [show ((((((((nI b) - ((((nI b).toUInt32 >>> ((1 : Int32).toUInt32 &&& Int32.toUInt32 31)).toInt32) &&& 1431655765)) &&& 858993459) + (((((nI b) - ((((nI b).toUInt32 >>> ((1 : Int32).toUInt32 &&& Int32.toUInt32 31)).toInt32) &&& 1431655765)).toUInt32 >>> ((2 : Int32).toUInt32 &&& Int32.toUInt32 31)).toInt32) &&& 858993459)) + ((((((nI b) - ((((nI b).toUInt32 >>> ((1 : Int32).toUInt32 &&& Int32.toUInt32 31)).toInt32) &&& 1431655765)) &&& 858993459) + (((((nI b) - ((((nI b).toUInt32 >>> ((1 : Int32).toUInt32 &&& Int32.toUInt32 31)).toInt32) &&& 1431655765)).toUInt32 >>> ((2 : Int32).toUInt32 &&& Int32.toUInt32 31)).toInt32) &&& 858993459)).toUInt32 >>> ((4 : Int32).toUInt32 &&& Int32.toUInt32 31)).toInt32)) &&& 252645135) + ((((((((nI b) - ((((nI b).toUInt32 >>> ((1 : Int32).toUInt32 &&& Int32.toUInt32 31)).toInt32) &&& 1431655765)) &&& 858993459) + (((((nI b) - ((((nI b).toUInt32 >>> ((1 : Int32).toUInt32 &&& Int32.toUInt32 31)).toInt32) &&& 1431655765)).toUInt32 >>> ((2 : Int32).toUInt32 &&& Int32.toUInt32 31)).toInt32) &&& 858993459)) + ((((((nI b) - ((((nI b).toUInt32 >>> ((1 : Int32).toUInt32 &&& Int32.toUInt32 31)).toInt32) &&& 1431655765)) &&& 858993459) + (((((nI b) - ((((nI b).toUInt32 >>> ((1 : Int32).toUInt32 &&& Int32.toUInt32 31)).toInt32) &&& 1431655765)).toUInt32 >>> ((2 : Int32).toUInt32 &&& Int32.toUInt32 31)).toInt32) &&& 858993459)).toUInt32 >>> ((4 : Int32).toUInt32 &&& Int32.toUInt32 31)).toInt32)) &&& 252645135).toUInt32 >>> ((8 : Int32).toUInt32 &&& Int32.toUInt32 31)).toInt32)) + (((((((((nI b) - ((((nI b).toUInt32 >>> ((1 : Int32).toUInt32 &&& Int32.toUInt32 31)).toInt32) &&& 1431655765)) &&& 858993459) + (((((nI b) - ((((nI b).toUInt32 >>> ((1 : Int32).toUInt32 &&& Int32.toUInt32 31)).toInt32) &&& 1431655765)).toUInt32 >>> ((2 : Int32).toUInt32 &&& Int32.toUInt32 31)).toInt32) &&& 858993459)) + ((((((nI b) - ((((nI b).toUInt32 >>> ((1 : Int32).toUInt32 &&& Int32.toUInt32 31)).toInt32) &&& 1431655765)) &&& 858993459) + (((((nI b) - ((((nI b).toUInt32 >>> ((1 : Int32).toUInt32 &&& Int32.toUInt32 31)).toInt32) &&& 1431655765)).toUInt32 >>> ((2 : Int32).toUInt32 &&& Int32.toUInt32 31)).toInt32) &&& 858993459)).toUInt32 >>> ((4 : Int32).toUInt32 &&& Int32.toUInt32 31)).toInt32)) &&& 252645135) + ((((((((nI b) - ((((nI b).toUInt32 >>> ((1 : Int32).toUInt32 &&& Int32.toUInt32 31)).toInt32) &&& 1431655765)) &&& 858993459) + (((((nI b) - ((((nI b).toUInt32 >>> ((1 : Int32).toUInt32 &&& Int32.toUInt32 31)).toInt32) &&& 1431655765)).toUInt32 >>> ((2 : Int32).toUInt32 &&& Int32.toUInt32 31)).toInt32) &&& 858993459)) + ((((((nI b) - ((((nI b).toUInt32 >>> ((1 : Int32).toUInt32 &&& Int32.toUInt32 31)).toInt32) &&& 1431655765)) &&& 858993459) + (((((nI b) - ((((nI b).toUInt32 >>> ((1 : Int32).toUInt32 &&& Int32.toUInt32 31)).toInt32) &&& 1431655765)).toUInt32 >>> ((2 : Int32).toUInt32 &&& Int32.toUInt32 31)).toInt32) &&& 858993459)).toUInt32 >>> ((4 : Int32).toUInt32 &&& Int32.toUInt32 31)).toInt32)) &&& 252645135).toUInt32 >>> ((8 : Int32).toUInt32 &&& Int32.toUInt32 31)).toInt32)).toUInt32 >>> ((16 : Int32).toUInt32 &&& Int32.toUInt32 31)).toInt32)) &&& 63 = nI (on b) from c_bce hb]
  exact k

set_option maxHeartbeats 4000000 in
set_option maxRecDepth 20000 in
theorem lp_ones {Q : am_P} {z : am_Z} {m : Nat → Nat → Int32} {n : Nat} {b : Nat} (hb : b < 256) (k : Q (some (.int (nI (on b)))) (wd z m) n) : ∀ (d c : Nat), c + d = 8 → AW mX10_ones Q 4 [some (.int (nI b)), some (.int (nI (on_n b c))), some (.int (nI c))] [] (wd z m) n 0 0 := by
  intro d
  induction d with
  | zero =>
    intro c hc
    obtain rfl : c = 8 := by omega
    refine r_iload_n 5 rfl 2 dX10_ones_4 rfl rfl ?_
    refine r_bipush 7 rfl 8 dX10_ones_5 (by decide) ?_
    refine r_icmp_ge 10 24 rfl dX10_ones_7 rfl (fun _ => ?_) (fun q__ => absurd ((nI_leI (a := 8) (b := 8) (by omega) (by omega)).mpr (by omega)) q__)
    refine r_iload_n 25 rfl 1 dX10_ones_24 rfl rfl ?_
    refine r_ireturn rfl dX10_ones_25 (Nat.le_of_ble_eq_true rfl) (Nat.le_of_ble_eq_true rfl) ?_
    exact k
  | succ d ih =>
    intro c hc
    have hl := on_n_le b c
    refine r_iload_n 5 rfl 2 dX10_ones_4 rfl rfl ?_
    refine r_bipush 7 rfl 8 dX10_ones_5 (by decide) ?_
    refine r_icmp_ge 10 24 rfl dX10_ones_7 rfl (fun q__ => absurd q__ (fun q__ => absurd ((nI_leI (a := 8) (b := c) (by omega) (by omega)).mp q__) (by omega))) (fun _ => ?_)
    refine r_iload_n 11 rfl 1 dX10_ones_10 rfl rfl ?_
    refine r_iload_n 12 rfl 0 dX10_ones_11 rfl rfl ?_
    refine r_iload_n 13 rfl 2 dX10_ones_12 rfl rfl ?_
    refine r_ishr 14 rfl dX10_ones_13 ?_
    refine r_iconst 15 rfl 1 dX10_ones_14 rfl ?_
    refine r_iand 16 rfl dX10_ones_15 ?_
    rw [show ((nI b) >>> ((nI c) &&& 31)) &&& 1 = nI (b / 2 ^ c % 2) from wl_bt b hb c (by omega)]
    refine r_iadd 17 rfl dX10_ones_16 ?_
    rw [show (nI (on_n b c)) + (nI (b / 2 ^ c % 2)) = nI ((on_n b c) + (b / 2 ^ c % 2)) from nI_add (on_n b c) (b / 2 ^ c % 2)]
    refine r_istore_n 18 rfl 1 [some (.int (nI b)), some (.int (nI ((on_n b c) + (b / 2 ^ c % 2)))), some (.int (nI c))] dX10_ones_17 rfl (by decide) rfl ?_
    refine r_iinc 21 rfl (nI (c + 1)) [some (.int (nI b)), some (.int (nI ((on_n b c) + (b / 2 ^ c % 2)))), some (.int (nI (c + 1)))] dX10_ones_18 rfl (nI_1 _) (by decide) rfl ?_
    refine r_goto 4 dX10_ones_21 rfl ?_
    exact ih (c + 1) (by omega)

set_option maxHeartbeats 4000000 in
set_option maxRecDepth 20000 in
theorem c_ones {Q : am_P} {z : am_Z} {m : Nat → Nat → Int32} {n : Nat} {b : Nat} (hb : b < 256) (k : Q (some (.int (nI (on b)))) (wd z m) n) : AW mX10_ones Q 0 (am_ent (am_l mX10_ones) [.int (nI b)]) [] (wd z m) n 0 0 := by
  show AW _ _ 0 [some (.int (nI b)), none, none] [] _ _ 0 0
  refine r_iconst 1 rfl 0 dX10_ones_0 rfl ?_
  refine r_istore_n 2 rfl 1 [some (.int (nI b)), some (.int 0), none] dX10_ones_1 rfl (by decide) rfl ?_
  refine r_iconst 3 rfl 0 dX10_ones_2 rfl ?_
  refine r_istore_n 4 rfl 2 [some (.int (nI b)), some (.int 0), some (.int 0)] dX10_ones_3 rfl (by decide) rfl ?_
  exact lp_ones hb k 8 0 rfl

set_option maxHeartbeats 4000000 in
set_option maxRecDepth 20000 in
theorem lp_fr1 {Q : am_P} {z : am_Z} {m : Nat → Nat → Int32} {n : Nat} {D : Nat → Nat → Nat} (hC : C9 z m D) {c : Nat} (hc : c < 8) (kx : AW mX9_cellsFreeForWalls Q 38 [some (.ref 1), some (.int (nI c)), some (.int (fr1 D c 8)), none, none] [] (wd z m) n 0 0) : ∀ (d k : Nat), k + d = 8 → AW mX9_cellsFreeForWalls Q 4 [some (.ref 1), some (.int (nI c)), some (.int (fr1 D c k)), some (.int (nI k)), none] [] (wd z m) n 0 0 := by
  intro d
  induction d with
  | zero =>
    intro k hk
    obtain rfl : k = 8 := by omega
    refine r_iload_n 5 rfl 3 dX9_cellsFreeForWalls_4 rfl rfl ?_
    refine r_bipush 7 rfl 8 dX9_cellsFreeForWalls_5 (by decide) ?_
    refine r_icmp_ge 10 38 rfl dX9_cellsFreeForWalls_7 rfl (fun _ => ?_) (fun q__ => absurd ((nI_leI (a := 8) (b := 8) (by omega) (by omega)).mpr (by omega)) q__)
    refine AW.drop 3 [some (.ref 1), some (.int (nI c)), some (.int (fr1 D c 8)), none, none] rfl ?_
    exact kx
  | succ d ih =>
    intro k hk
    have hx := ih (k + 1) (by omega)
    by_cases h1 : k = c
    · rw [show fr1 D c (k + 1) = fr1 D c k from if_pos (Or.inl h1)] at hx
      refine r_iload_n 5 rfl 3 dX9_cellsFreeForWalls_4 rfl rfl ?_
      refine r_bipush 7 rfl 8 dX9_cellsFreeForWalls_5 (by decide) ?_
      refine r_icmp_ge 10 38 rfl dX9_cellsFreeForWalls_7 rfl (fun q__ => absurd q__ (fun q__ => absurd ((nI_leI (a := 8) (b := k) (by omega) (by omega)).mp q__) (by omega))) (fun _ => ?_)
      refine r_iload_n 11 rfl 3 dX9_cellsFreeForWalls_10 rfl rfl ?_
      refine r_iload_n 12 rfl 1 dX9_cellsFreeForWalls_11 rfl rfl ?_
      refine r_icmp_eq 15 32 rfl dX9_cellsFreeForWalls_12 rfl (fun _ => ?_) (fun q__ => absurd ((nI_eq (a := k) (b := c) (by omega) (by omega)).mpr (by omega)) q__)
      refine r_iinc 35 rfl (nI (k + 1)) [some (.ref 1), some (.int (nI c)), some (.int (fr1 D c k)), some (.int (nI (k + 1))), none] dX9_cellsFreeForWalls_32 rfl (nI_1 _) (by decide) rfl ?_
      refine r_goto 4 dX9_cellsFreeForWalls_35 rfl ?_
      exact hx
    · by_cases h2 : D 0 k = 1
      · rw [show fr1 D c (k + 1) = fr1 D c k from if_pos (Or.inr h2)] at hx
        refine r_iload_n 5 rfl 3 dX9_cellsFreeForWalls_4 rfl rfl ?_
        refine r_bipush 7 rfl 8 dX9_cellsFreeForWalls_5 (by decide) ?_
        refine r_icmp_ge 10 38 rfl dX9_cellsFreeForWalls_7 rfl (fun q__ => absurd q__ (fun q__ => absurd ((nI_leI (a := 8) (b := k) (by omega) (by omega)).mp q__) (by omega))) (fun _ => ?_)
        refine r_iload_n 11 rfl 3 dX9_cellsFreeForWalls_10 rfl rfl ?_
        refine r_iload_n 12 rfl 1 dX9_cellsFreeForWalls_11 rfl rfl ?_
        refine r_icmp_eq 15 32 rfl dX9_cellsFreeForWalls_12 rfl (fun q__ => absurd q__ (fun q__ => absurd ((nI_eq (a := k) (b := c) (by omega) (by omega)).mp q__) (by omega))) (fun _ => ?_)
        refine r_aload_n 16 rfl 0 dX9_cellsFreeForWalls_15 rfl rfl ?_
        refine r_getf (v := .ref 4) (k := 1) 19 rfl dX9_cellsFreeForWalls_16 (gf_X9_19_9 rfl) rfl rfl ?_
        refine r_iload_n 20 rfl 3 dX9_cellsFreeForWalls_19 rfl rfl ?_
        refine q_V 23 0 0 rfl [.int (nI k)] rfl dX9_cellsFreeForWalls_20 cl_X9_cellsFreeForWalls__X7_isWall (lk_X9_177 rfl) im_X7_isWall (ci := 7) rfl sl_X7__X7_isWall rfl (Nat.le_of_ble_eq_true rfl) (fun _ _ => Nat.le_of_ble_eq_true rfl) rfl rfl (Nat.le_of_ble_eq_true rfl) (Nat.le_of_ble_eq_true rfl) ?_
        refine c_isWall_t hC (by omega) h2 (k_i ?_)
        refine r_if_ne 26 32 rfl dX9_cellsFreeForWalls_23 rfl (fun _ => ?_) (fun q__ => absurd q__ (by decide))
        refine r_iinc 35 rfl (nI (k + 1)) [some (.ref 1), some (.int (nI c)), some (.int (fr1 D c k)), some (.int (nI (k + 1))), none] dX9_cellsFreeForWalls_32 rfl (nI_1 _) (by decide) rfl ?_
        refine r_goto 4 dX9_cellsFreeForWalls_35 rfl ?_
        exact hx
      · rw [show fr1 D c (k + 1) = fr1 D c k ||| (1 <<< (nI k &&& 31)) from if_neg (fun q => q.elim h1 h2)] at hx
        refine r_iload_n 5 rfl 3 dX9_cellsFreeForWalls_4 rfl rfl ?_
        refine r_bipush 7 rfl 8 dX9_cellsFreeForWalls_5 (by decide) ?_
        refine r_icmp_ge 10 38 rfl dX9_cellsFreeForWalls_7 rfl (fun q__ => absurd q__ (fun q__ => absurd ((nI_leI (a := 8) (b := k) (by omega) (by omega)).mp q__) (by omega))) (fun _ => ?_)
        refine r_iload_n 11 rfl 3 dX9_cellsFreeForWalls_10 rfl rfl ?_
        refine r_iload_n 12 rfl 1 dX9_cellsFreeForWalls_11 rfl rfl ?_
        refine r_icmp_eq 15 32 rfl dX9_cellsFreeForWalls_12 rfl (fun q__ => absurd q__ (fun q__ => absurd ((nI_eq (a := k) (b := c) (by omega) (by omega)).mp q__) (by omega))) (fun _ => ?_)
        refine r_aload_n 16 rfl 0 dX9_cellsFreeForWalls_15 rfl rfl ?_
        refine r_getf (v := .ref 4) (k := 1) 19 rfl dX9_cellsFreeForWalls_16 (gf_X9_19_9 rfl) rfl rfl ?_
        refine r_iload_n 20 rfl 3 dX9_cellsFreeForWalls_19 rfl rfl ?_
        refine q_V 23 0 0 rfl [.int (nI k)] rfl dX9_cellsFreeForWalls_20 cl_X9_cellsFreeForWalls__X7_isWall (lk_X9_177 rfl) im_X7_isWall (ci := 7) rfl sl_X7__X7_isWall rfl (Nat.le_of_ble_eq_true rfl) (fun _ _ => Nat.le_of_ble_eq_true rfl) rfl rfl (Nat.le_of_ble_eq_true rfl) (Nat.le_of_ble_eq_true rfl) ?_
        refine c_isWall_f hC (by omega) h2 (k_i ?_)
        refine r_if_ne 26 32 rfl dX9_cellsFreeForWalls_23 rfl (fun q__ => absurd (by decide) q__) (fun _ => ?_)
        refine r_iload_n 27 rfl 2 dX9_cellsFreeForWalls_26 rfl rfl ?_
        refine r_iconst 28 rfl 1 dX9_cellsFreeForWalls_27 rfl ?_
        refine r_iload_n 29 rfl 3 dX9_cellsFreeForWalls_28 rfl rfl ?_
        refine r_ishl 30 rfl dX9_cellsFreeForWalls_29 ?_
        refine r_ior 31 rfl dX9_cellsFreeForWalls_30 ?_
        refine r_istore_n 32 rfl 2 [some (.ref 1), some (.int (nI c)), some (.int ((fr1 D c k) ||| (1 <<< ((nI k) &&& 31)))), some (.int (nI k)), none] dX9_cellsFreeForWalls_31 rfl (by decide) rfl ?_
        refine r_iinc 35 rfl (nI (k + 1)) [some (.ref 1), some (.int (nI c)), some (.int ((fr1 D c k) ||| (1 <<< ((nI k) &&& 31)))), some (.int (nI (k + 1))), none] dX9_cellsFreeForWalls_32 rfl (nI_1 _) (by decide) rfl ?_
        refine r_goto 4 dX9_cellsFreeForWalls_35 rfl ?_
        exact hx

set_option maxHeartbeats 4000000 in
set_option maxRecDepth 20000 in
theorem lp_fr2 {Q : am_P} {z : am_Z} {m : Nat → Nat → Int32} {n : Nat} {D : Nat → Nat → Nat} (hC : C9 z m D) {c : Nat} (kq : Q (some (.int (fr2 D c (D 7 1)))) (wd z m) n) : ∀ (d s : Nat), s + d = D 7 1 → AW mX9_cellsFreeForWalls Q 40 [some (.ref 1), some (.int (nI c)), some (.int (fr2 D c s)), some (.int (nI s)), none] [] (wd z m) n 0 0 := by
  obtain ⟨hg, hfd, hf3, hf0, hns, hn6, hsd, hsb, hwi, hw4, hfr, hr1, hhr, hh⟩ := id hC
  intro d
  induction d with
  | zero =>
    intro s hs
    obtain rfl : s = D 7 1 := by omega
    refine r_iload_n 41 rfl 3 dX9_cellsFreeForWalls_40 rfl rfl ?_
    refine r_aload_n 42 rfl 0 dX9_cellsFreeForWalls_41 rfl rfl ?_
    refine r_getf (v := .ref 7) (k := 3) 45 rfl dX9_cellsFreeForWalls_42 (gf_X9_32_9 rfl) rfl rfl ?_
    refine r_getf (v := .int ((m 7) 0)) (k := 0) 48 rfl dX9_cellsFreeForWalls_45 (gf_X9_119_5 rfl) rfl rfl ?_
    rw [show (m 7) 0 = nI (D 7 1) from hns]
    refine r_icmp_ge 51 81 rfl dX9_cellsFreeForWalls_48 rfl (fun _ => ?_) (fun q__ => absurd ((nI_leI (a := (D 7 1)) (b := (D 7 1)) (by omega) (by omega)).mpr (by omega)) q__)
    refine r_iload_n 82 rfl 2 dX9_cellsFreeForWalls_81 rfl rfl ?_
    refine r_ireturn rfl dX9_cellsFreeForWalls_82 (Nat.le_of_ble_eq_true rfl) (Nat.le_of_ble_eq_true rfl) ?_
    exact kq
  | succ d ih =>
    intro s hs
    obtain ⟨q, hzr, hq, hz, hkd, hpa, hce, hsg1, hsg⟩ := hsd s (by omega)
    refine r_iload_n 41 rfl 3 dX9_cellsFreeForWalls_40 rfl rfl ?_
    refine r_aload_n 42 rfl 0 dX9_cellsFreeForWalls_41 rfl rfl ?_
    refine r_getf (v := .ref 7) (k := 3) 45 rfl dX9_cellsFreeForWalls_42 (gf_X9_32_9 rfl) rfl rfl ?_
    refine r_getf (v := .int ((m 7) 0)) (k := 0) 48 rfl dX9_cellsFreeForWalls_45 (gf_X9_119_5 rfl) rfl rfl ?_
    rw [show (m 7) 0 = nI (D 7 1) from hns]
    refine r_icmp_ge 51 81 rfl dX9_cellsFreeForWalls_48 rfl (fun q__ => absurd q__ (fun q__ => absurd ((nI_leI (a := (D 7 1)) (b := s) (by omega) (by omega)).mp q__) (by omega))) (fun _ => ?_)
    refine r_aload_n 52 rfl 0 dX9_cellsFreeForWalls_51 rfl rfl ?_
    refine r_iload_n 53 rfl 3 dX9_cellsFreeForWalls_52 rfl rfl ?_
    refine q_V 56 0 0 rfl [.int (nI s)] rfl dX9_cellsFreeForWalls_53 cl_X9_cellsFreeForWalls__X9_find (lk_X9_128 rfl) im_X9_find (ci := 9) rfl sl_X9__X9_find rfl (Nat.le_of_ble_eq_true rfl) (fun _ _ => Nat.le_of_ble_eq_true rfl) rfl rfl (Nat.le_of_ble_eq_true rfl) (Nat.le_of_ble_eq_true rfl) ?_
    refine c_find_t hns hn6 (by omega) hzr (k_r ?_)
    refine r_astore 58 rfl [some (.ref 1), some (.int (nI c)), some (.int (fr2 D c s)), some (.int (nI s)), some (.ref q)] dX9_cellsFreeForWalls_56 (by decide) rfl ?_
    refine r_aload 60 rfl dX9_cellsFreeForWalls_58 rfl ?_
    refine r_ifnull 63 rfl dX9_cellsFreeForWalls_60 ?_
    refine r_iload_n 64 rfl 2 dX9_cellsFreeForWalls_63 rfl rfl ?_
    refine r_iconst 65 rfl 1 dX9_cellsFreeForWalls_64 rfl ?_
    refine r_aload 67 rfl dX9_cellsFreeForWalls_65 rfl ?_
    refine v_gf_X9_140 rfl 70 rfl dX9_cellsFreeForWalls_67 hq hz hkd ?_
    refine r_ishl 71 rfl dX9_cellsFreeForWalls_70 ?_
    refine r_iconst 72 rfl (-1) dX9_cellsFreeForWalls_71 rfl ?_
    refine r_ixor 73 rfl dX9_cellsFreeForWalls_72 ?_
    refine r_iand 74 rfl dX9_cellsFreeForWalls_73 ?_
    refine r_istore_n 75 rfl 2 [some (.ref 1), some (.int (nI c)), some (.int ((fr2 D c s) &&& ((1 <<< ((nI (D 3 s)) &&& 31)) ^^^ (-1)))), some (.int (nI s)), some (.ref q)] dX9_cellsFreeForWalls_74 rfl (by decide) rfl ?_
    refine r_iinc 78 rfl (nI (s + 1)) [some (.ref 1), some (.int (nI c)), some (.int ((fr2 D c s) &&& ((1 <<< ((nI (D 3 s)) &&& 31)) ^^^ (-1)))), some (.int (nI (s + 1))), some (.ref q)] dX9_cellsFreeForWalls_75 rfl (nI_1 _) (by decide) rfl ?_
    refine r_goto 40 dX9_cellsFreeForWalls_78 rfl ?_
    refine AW.drop 4 [some (.ref 1), some (.int (nI c)), some (.int ((fr2 D c s) &&& ((1 <<< ((nI (D 3 s)) &&& 31)) ^^^ (-1)))), some (.int (nI (s + 1))), none] rfl ?_
    exact ih (s + 1) (by omega)

set_option maxHeartbeats 4000000 in
set_option maxRecDepth 20000 in
theorem c_free9 {Q : am_P} {z : am_Z} {m : Nat → Nat → Int32} {n : Nat} {D : Nat → Nat → Nat} (hC : C9 z m D) {c : Nat} (hc : c < 8) (k : Q (some (.int (fr2 D c (D 7 1)))) (wd z m) n) : AW mX9_cellsFreeForWalls Q 0 (am_ent (am_l mX9_cellsFreeForWalls) [.ref 1, .int (nI c)]) [] (wd z m) n 0 0 := by
  show AW _ _ 0 [some (.ref 1), some (.int (nI c)), none, none, none] [] _ _ 0 0
  refine r_iconst 1 rfl 0 dX9_cellsFreeForWalls_0 rfl ?_
  refine r_istore_n 2 rfl 2 [some (.ref 1), some (.int (nI c)), some (.int 0), none, none] dX9_cellsFreeForWalls_1 rfl (by decide) rfl ?_
  refine r_iconst 3 rfl 0 dX9_cellsFreeForWalls_2 rfl ?_
  refine r_istore_n 4 rfl 3 [some (.ref 1), some (.int (nI c)), some (.int 0), some (.int 0), none] dX9_cellsFreeForWalls_3 rfl (by decide) rfl ?_
  refine lp_fr1 hC hc ?_ 8 0 rfl
  refine r_iconst 39 rfl 0 dX9_cellsFreeForWalls_38 rfl ?_
  refine r_istore_n 40 rfl 3 [some (.ref 1), some (.int (nI c)), some (.int (fr1 D c 8)), some (.int 0), none] dX9_cellsFreeForWalls_39 rfl (by decide) rfl ?_
  exact lp_fr2 hC k (D 7 1) 0 (by omega)

set_option maxHeartbeats 4000000 in
set_option maxRecDepth 20000 in
theorem lp_mb1 {Q : am_P} {z : am_Z} {m : Nat → Nat → Int32} {n : Nat} {D : Nat → Nat → Nat} (hC : C10 m D) {c : Nat} (hc : c < 8) (kx : AW mX10_mayBeWalls Q 41 [some (.ref 37), some (.int (nI c)), some (.int (fr1 D c 8)), none] [] (wd z m) n 0 0) : ∀ (d k : Nat), k + d = 8 → AW mX10_mayBeWalls Q 4 [some (.ref 37), some (.int (nI c)), some (.int (fr1 D c k)), some (.int (nI k))] [] (wd z m) n 0 0 := by
  intro d
  induction d with
  | zero =>
    intro k hk
    obtain rfl : k = 8 := by omega
    refine r_iload_n 5 rfl 3 dX10_mayBeWalls_4 rfl rfl ?_
    refine r_bipush 7 rfl 8 dX10_mayBeWalls_5 (by decide) ?_
    refine r_icmp_ge 10 41 rfl dX10_mayBeWalls_7 rfl (fun _ => ?_) (fun q__ => absurd ((nI_leI (a := 8) (b := 8) (by omega) (by omega)).mpr (by omega)) q__)
    refine AW.drop 3 [some (.ref 37), some (.int (nI c)), some (.int (fr1 D c 8)), none] rfl ?_
    exact kx
  | succ d ih =>
    intro k hk
    have hx := ih (k + 1) (by omega)
    obtain ⟨g1, g2⟩ := hC.1 k (by omega)
    by_cases h2 : D 0 k = 1
    · rw [show fr1 D c (k + 1) = fr1 D c k from if_pos (Or.inr h2)] at hx
      refine r_iload_n 5 rfl 3 dX10_mayBeWalls_4 rfl rfl ?_
      refine r_bipush 7 rfl 8 dX10_mayBeWalls_5 (by decide) ?_
      refine r_icmp_ge 10 41 rfl dX10_mayBeWalls_7 rfl (fun q__ => absurd q__ (fun q__ => absurd ((nI_leI (a := 8) (b := k) (by omega) (by omega)).mp q__) (by omega))) (fun _ => ?_)
      refine r_iload_n 11 rfl 2 dX10_mayBeWalls_10 rfl rfl ?_
      refine r_aload_n 12 rfl 0 dX10_mayBeWalls_11 rfl rfl ?_
      refine r_getf (v := .ref 39) (k := 7) 15 rfl dX10_mayBeWalls_12 (gf_X10_13_10 rfl) rfl rfl ?_
      refine r_iload_n 16 rfl 3 dX10_mayBeWalls_15 rfl rfl ?_
      refine r_iald (f := m 39) 17 rfl k dX10_mayBeWalls_16 rfl rfl (by omega) (by decide) ?_
      rw [show (m 39) k = nI (D 0 k) from g1]
      refine r_iconst 18 rfl 1 dX10_mayBeWalls_17 rfl ?_
      refine r_icmp_eq 21 32 rfl dX10_mayBeWalls_18 rfl (fun _ => ?_) (fun q__ => absurd ((nI_eq (a := (D 0 k)) (b := 1) (by omega) (by omega)).mpr (by omega)) q__)
      refine r_iconst 33 rfl 0 dX10_mayBeWalls_32 rfl ?_
      refine r_ior 34 rfl dX10_mayBeWalls_33 ?_
      rw [show (fr1 D c k) ||| 0 = fr1 D c k from Int32.or_zero]
      refine r_istore_n 35 rfl 2 [some (.ref 37), some (.int (nI c)), some (.int (fr1 D c k)), some (.int (nI k))] dX10_mayBeWalls_34 rfl (by decide) rfl ?_
      refine r_iinc 38 rfl (nI (k + 1)) [some (.ref 37), some (.int (nI c)), some (.int (fr1 D c k)), some (.int (nI (k + 1)))] dX10_mayBeWalls_35 rfl (nI_1 _) (by decide) rfl ?_
      refine r_goto 4 dX10_mayBeWalls_38 rfl ?_
      exact hx
    · by_cases h1 : k = c
      · rw [show fr1 D c (k + 1) = fr1 D c k from if_pos (Or.inl h1)] at hx
        refine r_iload_n 5 rfl 3 dX10_mayBeWalls_4 rfl rfl ?_
        refine r_bipush 7 rfl 8 dX10_mayBeWalls_5 (by decide) ?_
        refine r_icmp_ge 10 41 rfl dX10_mayBeWalls_7 rfl (fun q__ => absurd q__ (fun q__ => absurd ((nI_leI (a := 8) (b := k) (by omega) (by omega)).mp q__) (by omega))) (fun _ => ?_)
        refine r_iload_n 11 rfl 2 dX10_mayBeWalls_10 rfl rfl ?_
        refine r_aload_n 12 rfl 0 dX10_mayBeWalls_11 rfl rfl ?_
        refine r_getf (v := .ref 39) (k := 7) 15 rfl dX10_mayBeWalls_12 (gf_X10_13_10 rfl) rfl rfl ?_
        refine r_iload_n 16 rfl 3 dX10_mayBeWalls_15 rfl rfl ?_
        refine r_iald (f := m 39) 17 rfl k dX10_mayBeWalls_16 rfl rfl (by omega) (by decide) ?_
        rw [show (m 39) k = nI (D 0 k) from g1]
        refine r_iconst 18 rfl 1 dX10_mayBeWalls_17 rfl ?_
        refine r_icmp_eq 21 32 rfl dX10_mayBeWalls_18 rfl (fun q__ => absurd q__ (fun q__ => absurd ((nI_eq (a := (D 0 k)) (b := 1) (by omega) (by omega)).mp q__) (by omega))) (fun _ => ?_)
        refine r_iload_n 22 rfl 3 dX10_mayBeWalls_21 rfl rfl ?_
        refine r_iload_n 23 rfl 1 dX10_mayBeWalls_22 rfl rfl ?_
        refine r_icmp_eq 26 32 rfl dX10_mayBeWalls_23 rfl (fun _ => ?_) (fun q__ => absurd ((nI_eq (a := k) (b := c) (by omega) (by omega)).mpr (by omega)) q__)
        refine r_iconst 33 rfl 0 dX10_mayBeWalls_32 rfl ?_
        refine r_ior 34 rfl dX10_mayBeWalls_33 ?_
        rw [show (fr1 D c k) ||| 0 = fr1 D c k from Int32.or_zero]
        refine r_istore_n 35 rfl 2 [some (.ref 37), some (.int (nI c)), some (.int (fr1 D c k)), some (.int (nI k))] dX10_mayBeWalls_34 rfl (by decide) rfl ?_
        refine r_iinc 38 rfl (nI (k + 1)) [some (.ref 37), some (.int (nI c)), some (.int (fr1 D c k)), some (.int (nI (k + 1)))] dX10_mayBeWalls_35 rfl (nI_1 _) (by decide) rfl ?_
        refine r_goto 4 dX10_mayBeWalls_38 rfl ?_
        exact hx
      · rw [show fr1 D c (k + 1) = fr1 D c k ||| (1 <<< (nI k &&& 31)) from if_neg (fun q => q.elim h1 h2)] at hx
        refine r_iload_n 5 rfl 3 dX10_mayBeWalls_4 rfl rfl ?_
        refine r_bipush 7 rfl 8 dX10_mayBeWalls_5 (by decide) ?_
        refine r_icmp_ge 10 41 rfl dX10_mayBeWalls_7 rfl (fun q__ => absurd q__ (fun q__ => absurd ((nI_leI (a := 8) (b := k) (by omega) (by omega)).mp q__) (by omega))) (fun _ => ?_)
        refine r_iload_n 11 rfl 2 dX10_mayBeWalls_10 rfl rfl ?_
        refine r_aload_n 12 rfl 0 dX10_mayBeWalls_11 rfl rfl ?_
        refine r_getf (v := .ref 39) (k := 7) 15 rfl dX10_mayBeWalls_12 (gf_X10_13_10 rfl) rfl rfl ?_
        refine r_iload_n 16 rfl 3 dX10_mayBeWalls_15 rfl rfl ?_
        refine r_iald (f := m 39) 17 rfl k dX10_mayBeWalls_16 rfl rfl (by omega) (by decide) ?_
        rw [show (m 39) k = nI (D 0 k) from g1]
        refine r_iconst 18 rfl 1 dX10_mayBeWalls_17 rfl ?_
        refine r_icmp_eq 21 32 rfl dX10_mayBeWalls_18 rfl (fun q__ => absurd q__ (fun q__ => absurd ((nI_eq (a := (D 0 k)) (b := 1) (by omega) (by omega)).mp q__) (by omega))) (fun _ => ?_)
        refine r_iload_n 22 rfl 3 dX10_mayBeWalls_21 rfl rfl ?_
        refine r_iload_n 23 rfl 1 dX10_mayBeWalls_22 rfl rfl ?_
        refine r_icmp_eq 26 32 rfl dX10_mayBeWalls_23 rfl (fun q__ => absurd q__ (fun q__ => absurd ((nI_eq (a := k) (b := c) (by omega) (by omega)).mp q__) (by omega))) (fun _ => ?_)
        refine r_iconst 27 rfl 1 dX10_mayBeWalls_26 rfl ?_
        refine r_iload_n 28 rfl 3 dX10_mayBeWalls_27 rfl rfl ?_
        refine r_ishl 29 rfl dX10_mayBeWalls_28 ?_
        refine r_goto 33 dX10_mayBeWalls_29 rfl ?_
        refine r_ior 34 rfl dX10_mayBeWalls_33 ?_
        refine r_istore_n 35 rfl 2 [some (.ref 37), some (.int (nI c)), some (.int ((fr1 D c k) ||| (1 <<< ((nI k) &&& 31)))), some (.int (nI k))] dX10_mayBeWalls_34 rfl (by decide) rfl ?_
        refine r_iinc 38 rfl (nI (k + 1)) [some (.ref 37), some (.int (nI c)), some (.int ((fr1 D c k) ||| (1 <<< ((nI k) &&& 31)))), some (.int (nI (k + 1)))] dX10_mayBeWalls_35 rfl (nI_1 _) (by decide) rfl ?_
        refine r_goto 4 dX10_mayBeWalls_38 rfl ?_
        exact hx

set_option maxHeartbeats 4000000 in
set_option maxRecDepth 20000 in
theorem lp_mb2 {Q : am_P} {z : am_Z} {m : Nat → Nat → Int32} {n : Nat} {D : Nat → Nat → Nat} (hC : C10 m D) {c : Nat} (kq : Q (some (.int (fr2 D c (D 7 1)))) (wd z m) n) : ∀ (d s : Nat), s + d = D 7 1 → AW mX10_mayBeWalls Q 43 [some (.ref 37), some (.int (nI c)), some (.int (fr2 D c s)), some (.int (nI s))] [] (wd z m) n 0 0 := by
  obtain ⟨hg, hfd, hf3, hf0, hns, hn7, hmr, hwi, hw4, hfr, hr1, hhr, hh⟩ := id hC
  intro d
  induction d with
  | zero =>
    intro s hs
    obtain rfl : s = D 7 1 := by omega
    refine r_iload_n 44 rfl 3 dX10_mayBeWalls_43 rfl rfl ?_
    refine r_aload_n 45 rfl 0 dX10_mayBeWalls_44 rfl rfl ?_
    refine r_getf (v := .int ((m 37) 10)) (k := 10) 48 rfl dX10_mayBeWalls_45 (gf_X10_95_10 rfl) rfl rfl ?_
    rw [show (m 37) 10 = nI (D 7 1) from hns]
    refine r_icmp_ge 51 75 rfl dX10_mayBeWalls_48 rfl (fun _ => ?_) (fun q__ => absurd ((nI_leI (a := (D 7 1)) (b := (D 7 1)) (by omega) (by omega)).mpr (by omega)) q__)
    refine r_iload_n 76 rfl 2 dX10_mayBeWalls_75 rfl rfl ?_
    refine r_ireturn rfl dX10_mayBeWalls_76 (Nat.le_of_ble_eq_true rfl) (Nat.le_of_ble_eq_true rfl) ?_
    exact kq
  | succ d ih =>
    intro s hs
    have e2 := (hmr s (by omega)).1.2.2.1
    refine r_iload_n 44 rfl 3 dX10_mayBeWalls_43 rfl rfl ?_
    refine r_aload_n 45 rfl 0 dX10_mayBeWalls_44 rfl rfl ?_
    refine r_getf (v := .int ((m 37) 10)) (k := 10) 48 rfl dX10_mayBeWalls_45 (gf_X10_95_10 rfl) rfl rfl ?_
    rw [show (m 37) 10 = nI (D 7 1) from hns]
    refine r_icmp_ge 51 75 rfl dX10_mayBeWalls_48 rfl (fun q__ => absurd q__ (fun q__ => absurd ((nI_leI (a := (D 7 1)) (b := s) (by omega) (by omega)).mp q__) (by omega))) (fun _ => ?_)
    refine r_iload_n 52 rfl 2 dX10_mayBeWalls_51 rfl rfl ?_
    refine r_iconst 53 rfl 1 dX10_mayBeWalls_52 rfl ?_
    refine r_aload_n 54 rfl 0 dX10_mayBeWalls_53 rfl rfl ?_
    refine r_getf (v := .ref 42) (k := 11) 57 rfl dX10_mayBeWalls_54 (gf_X10_22_10 rfl) rfl rfl ?_
    refine r_bipush 59 rfl 6 dX10_mayBeWalls_57 (by decide) ?_
    refine r_iload_n 60 rfl 3 dX10_mayBeWalls_59 rfl rfl ?_
    refine r_imul 61 rfl dX10_mayBeWalls_60 ?_
    rw [show 6 * (nI s) = nI (6 * s) from pk_mul 6 s]
    refine r_iconst 62 rfl 2 dX10_mayBeWalls_61 rfl ?_
    refine r_iadd 63 rfl dX10_mayBeWalls_62 ?_
    rw [show (nI (6 * s)) + 2 = nI ((6 * s) + 2) from nI_add (6 * s) 2]
    refine r_iald (f := m 42) 64 rfl ((6 * s) + 2) dX10_mayBeWalls_63 rfl rfl (by omega) (by decide) ?_
    rw [show (m 42) ((6 * s) + 2) = nI (D 3 s) from e2]
    refine r_ishl 65 rfl dX10_mayBeWalls_64 ?_
    refine r_iconst 66 rfl (-1) dX10_mayBeWalls_65 rfl ?_
    refine r_ixor 67 rfl dX10_mayBeWalls_66 ?_
    refine r_iand 68 rfl dX10_mayBeWalls_67 ?_
    refine r_istore_n 69 rfl 2 [some (.ref 37), some (.int (nI c)), some (.int ((fr2 D c s) &&& ((1 <<< ((nI (D 3 s)) &&& 31)) ^^^ (-1)))), some (.int (nI s))] dX10_mayBeWalls_68 rfl (by decide) rfl ?_
    refine r_iinc 72 rfl (nI (s + 1)) [some (.ref 37), some (.int (nI c)), some (.int ((fr2 D c s) &&& ((1 <<< ((nI (D 3 s)) &&& 31)) ^^^ (-1)))), some (.int (nI (s + 1)))] dX10_mayBeWalls_69 rfl (nI_1 _) (by decide) rfl ?_
    refine r_goto 43 dX10_mayBeWalls_72 rfl ?_
    exact ih (s + 1) (by omega)

set_option maxHeartbeats 4000000 in
set_option maxRecDepth 20000 in
theorem c_free10 {Q : am_P} {z : am_Z} {m : Nat → Nat → Int32} {n : Nat} {D : Nat → Nat → Nat} (hC : C10 m D) {c : Nat} (hc : c < 8) (k : Q (some (.int (fr2 D c (D 7 1)))) (wd z m) n) : AW mX10_mayBeWalls Q 0 (am_ent (am_l mX10_mayBeWalls) [.ref 37, .int (nI c)]) [] (wd z m) n 0 0 := by
  show AW _ _ 0 [some (.ref 37), some (.int (nI c)), none, none] [] _ _ 0 0
  refine r_iconst 1 rfl 0 dX10_mayBeWalls_0 rfl ?_
  refine r_istore_n 2 rfl 2 [some (.ref 37), some (.int (nI c)), some (.int 0), none] dX10_mayBeWalls_1 rfl (by decide) rfl ?_
  refine r_iconst 3 rfl 0 dX10_mayBeWalls_2 rfl ?_
  refine r_istore_n 4 rfl 3 [some (.ref 37), some (.int (nI c)), some (.int 0), some (.int 0)] dX10_mayBeWalls_3 rfl (by decide) rfl ?_
  refine lp_mb1 hC hc ?_ 8 0 rfl
  refine r_iconst 42 rfl 0 dX10_mayBeWalls_41 rfl ?_
  refine r_istore_n 43 rfl 3 [some (.ref 37), some (.int (nI c)), some (.int (fr1 D c 8)), some (.int 0)] dX10_mayBeWalls_42 rfl (by decide) rfl ?_
  exact lp_mb2 hC k (D 7 1) 0 (by omega)

set_option maxHeartbeats 4000000 in
set_option maxRecDepth 20000 in
theorem lp_few9 {Q : am_P} {z : am_Z} {m : Nat → Nat → Int32} {n : Nat} {D : Nat → Nat → Nat} (hC : C9 z m D) {c p : Nat} (hc : c < 8) (hp : p < 3) (kq : ∀ m', ag [29, 30, 31, 32] m m' → Q (some (.int (oI (wb D c p 256)))) (wd z m') n) : ∀ (d b : Nat), b + d = 256 → ∀ m', ag [29, 30, 31, 32] m m' → AW mX9_fewestWalls Q 12 [some (.ref 1), some (.int (nI c)), some (.int (nI p)), some (.int (fr2 D c (D 7 1))), some (.int (oI (wb D c p b))), some (.int (nI b)), none] [] (wd z m') n 0 0 := by
  intro d
  induction d with
  | zero =>
    intro b hb m' hag
    obtain rfl : b = 256 := by omega
    refine r_iload 14 rfl dX9_fewestWalls_12 rfl ?_
    refine r_sipush 17 rfl 256 dX9_fewestWalls_14 (by decide) ?_
    refine r_icmp_ge 20 104 rfl dX9_fewestWalls_17 rfl (fun _ => ?_) (fun q__ => absurd ((nI_leI (a := 256) (b := 256) (by omega) (by omega)).mpr (by omega)) q__)
    refine r_iload 106 rfl dX9_fewestWalls_104 rfl ?_
    refine r_ireturn rfl dX9_fewestWalls_106 (Nat.le_of_ble_eq_true rfl) (Nat.le_of_ble_eq_true rfl) ?_
    exact kq m' hag
  | succ d ih =>
    intro b hb m' hag
    have hb6 : b < 256 := by omega
    have hC' := C9_ag hC hag (by decide)
    obtain ⟨hg, hfd, hf3, hf0, hns, hn6, hsd, hsb, hwi, hw4, hfr, hr1, hhr, hh⟩ := id hC'
    have hx := ih (b + 1) (by omega)
    rcases ho : wb D c p b with _ | x
    · show AW _ _ 12 [some (.ref 1), some (.int (nI c)), some (.int (nI p)), some (.int (fr2 D c (D 7 1))), some (.int (-1)), some (.int (nI b)), none] [] _ _ 0 0
      refine r_iload 14 rfl dX9_fewestWalls_12 rfl ?_
      refine r_sipush 17 rfl 256 dX9_fewestWalls_14 (by decide) ?_
      refine r_icmp_ge 20 104 rfl dX9_fewestWalls_17 rfl (fun q__ => absurd q__ (fun q__ => absurd ((nI_leI (a := 256) (b := b) (by omega) (by omega)).mp q__) (by omega))) (fun _ => ?_)
      refine r_iload 22 rfl dX9_fewestWalls_20 rfl ?_
      refine r_iconst 23 rfl (-1) dX9_fewestWalls_22 rfl ?_
      refine r_icmp_eq 26 39 rfl dX9_fewestWalls_23 rfl (fun _ => ?_) (fun q__ => absurd (by decide) q__)
      refine r_iconst 40 rfl 1 dX9_fewestWalls_39 rfl ?_
      refine r_goto 44 dX9_fewestWalls_40 rfl ?_
      refine r_istore 46 rfl [some (.ref 1), some (.int (nI c)), some (.int (nI p)), some (.int (fr2 D c (D 7 1))), some (.int (-1)), some (.int (nI b)), some (.int 1)] dX9_fewestWalls_44 (by decide) rfl ?_
      refine r_iload 48 rfl dX9_fewestWalls_46 rfl ?_
      refine r_iload_n 49 rfl 3 dX9_fewestWalls_48 rfl rfl ?_
      refine r_iconst 50 rfl (-1) dX9_fewestWalls_49 rfl ?_
      refine r_ixor 51 rfl dX9_fewestWalls_50 ?_
      refine r_iand 52 rfl dX9_fewestWalls_51 ?_
      refine r_if_ne 55 98 rfl dX9_fewestWalls_52 rfl (fun c52 => ?_) (fun c52 => ?_)
      · refine r_iinc 101 rfl (nI (b + 1)) [some (.ref 1), some (.int (nI c)), some (.int (nI p)), some (.int (fr2 D c (D 7 1))), some (.int (-1)), some (.int (nI (b + 1))), some (.int 1)] dX9_fewestWalls_98 rfl (nI_1 _) (by decide) rfl ?_
        refine r_goto 12 dX9_fewestWalls_101 rfl ?_
        refine AW.drop 6 [some (.ref 1), some (.int (nI c)), some (.int (nI p)), some (.int (fr2 D c (D 7 1))), some (.int (-1)), some (.int (nI (b + 1))), none] rfl ?_
        rw [show wb D c p (b + 1) = wb D c p b from wb_n1 (fun q => c52 (of_decide_eq_true q))] at hx
        rw [ho] at hx
        exact hx m' hag
      · refine r_iload 57 rfl dX9_fewestWalls_55 rfl ?_
        refine r_if_eq 60 98 rfl dX9_fewestWalls_57 rfl (fun q__ => absurd q__ (by decide)) (fun _ => ?_)
        refine r_aload_n 61 rfl 0 dX9_fewestWalls_60 rfl rfl ?_
        refine r_getf (v := .ref 28) (k := 6) 64 rfl dX9_fewestWalls_61 (gf_X9_45_9 rfl) rfl rfl ?_
        refine r_aload_n 65 rfl 0 dX9_fewestWalls_64 rfl rfl ?_
        refine r_getf (v := .ref 4) (k := 1) 68 rfl dX9_fewestWalls_65 (gf_X9_19_9 rfl) rfl rfl ?_
        refine r_aload_n 69 rfl 0 dX9_fewestWalls_68 rfl rfl ?_
        refine r_getf (v := .ref 6) (k := 2) 72 rfl dX9_fewestWalls_69 (gf_X9_25_9 rfl) rfl rfl ?_
        refine r_aload_n 73 rfl 0 dX9_fewestWalls_72 rfl rfl ?_
        refine r_getf (v := .ref 7) (k := 3) 76 rfl dX9_fewestWalls_73 (gf_X9_32_9 rfl) rfl rfl ?_
        refine r_iload 78 rfl dX9_fewestWalls_76 rfl ?_
        refine q_V 81 0 0 rfl [.ref 4, .ref 6, .ref 7, .int (nI b)] rfl dX9_fewestWalls_78 cl_X9_fewestWalls__X0_settle (lk_X9_247 rfl) im_X0_settle (ci := 0) rfl sl_X0__X0_settle rfl (Nat.le_of_ble_eq_true rfl) (fun _ _ => Nat.le_of_ble_eq_true rfl) rfl rfl (Nat.le_of_ble_eq_true rfl) (Nat.le_of_ble_eq_true rfl) ?_
        refine c_settle_7 (wl := nI b) (D 0) hg hfd hf0 hf3 hns hn6 hsd hsb hwi hw4 hfr hr1 hhr hh (fun m2 _ _ h31 hag2 => (k_v ?_))
        have e31 : m2 31 c = WH (wW D b) c := by rw [h31 c hc, ← AM_wW hb6]; rfl
        refine r_aload_n 82 rfl 0 dX9_fewestWalls_81 rfl rfl ?_
        refine r_getf (v := .ref 28) (k := 6) 85 rfl dX9_fewestWalls_82 (gf_X9_45_9 rfl) rfl rfl ?_
        refine r_getf (v := .ref 31) (k := 2) 88 rfl dX9_fewestWalls_85 (gf_X9_183_0 rfl) rfl rfl ?_
        refine r_iload_n 89 rfl 1 dX9_fewestWalls_88 rfl rfl ?_
        refine r_iald (f := m2 31) 90 rfl c dX9_fewestWalls_89 rfl rfl (by omega) (by decide) ?_
        rw [show (m2 31) c = WH (wW D b) c from e31]
        refine r_iload_n 91 rfl 2 dX9_fewestWalls_90 rfl rfl ?_
        refine r_icmp_eq 94 98 rfl dX9_fewestWalls_91 rfl (fun c91 => ?_) (fun c91 => ?_)
        · refine r_iinc 101 rfl (nI (b + 1)) [some (.ref 1), some (.int (nI c)), some (.int (nI p)), some (.int (fr2 D c (D 7 1))), some (.int (-1)), some (.int (nI (b + 1))), some (.int 1)] dX9_fewestWalls_98 rfl (nI_1 _) (by decide) rfl ?_
          refine r_goto 12 dX9_fewestWalls_101 rfl ?_
          refine AW.drop 6 [some (.ref 1), some (.int (nI c)), some (.int (nI p)), some (.int (fr2 D c (D 7 1))), some (.int (-1)), some (.int (nI (b + 1))), none] rfl ?_
          rw [show wb D c p (b + 1) = wb D c p b from wb_n3 c91] at hx
          rw [ho] at hx
          exact hx m2 (ag_t hag hag2 (by decide))
        · refine r_iload 96 rfl dX9_fewestWalls_94 rfl ?_
          refine r_istore 98 rfl [some (.ref 1), some (.int (nI c)), some (.int (nI p)), some (.int (fr2 D c (D 7 1))), some (.int (nI b)), some (.int (nI b)), some (.int 1)] dX9_fewestWalls_96 (by decide) rfl ?_
          refine r_iinc 101 rfl (nI (b + 1)) [some (.ref 1), some (.int (nI c)), some (.int (nI p)), some (.int (fr2 D c (D 7 1))), some (.int (nI b)), some (.int (nI (b + 1))), some (.int 1)] dX9_fewestWalls_98 rfl (nI_1 _) (by decide) rfl ?_
          refine r_goto 12 dX9_fewestWalls_101 rfl ?_
          refine AW.drop 6 [some (.ref 1), some (.int (nI c)), some (.int (nI p)), some (.int (fr2 D c (D 7 1))), some (.int (nI b)), some (.int (nI (b + 1))), none] rfl ?_
          rw [show wb D c p (b + 1) = some b from wb_y (decide_eq_true c52) (by rw [ho]; exact rfl) c91] at hx
          exact hx m2 (ag_t hag hag2 (by decide))
    · have hxb := wb_lt b x ho
      have hl1 := on_n_le b 8
      have hl2 := on_n_le x 8
      have hl1 : on b ≤ 8 := hl1
      have hl2 : on x ≤ 8 := hl2
      show AW _ _ 12 [some (.ref 1), some (.int (nI c)), some (.int (nI p)), some (.int (fr2 D c (D 7 1))), some (.int (nI x)), some (.int (nI b)), none] [] _ _ 0 0
      refine r_iload 14 rfl dX9_fewestWalls_12 rfl ?_
      refine r_sipush 17 rfl 256 dX9_fewestWalls_14 (by decide) ?_
      refine r_icmp_ge 20 104 rfl dX9_fewestWalls_17 rfl (fun q__ => absurd q__ (fun q__ => absurd ((nI_leI (a := 256) (b := b) (by omega) (by omega)).mp q__) (by omega))) (fun _ => ?_)
      refine r_iload 22 rfl dX9_fewestWalls_20 rfl ?_
      refine r_iconst 23 rfl (-1) dX9_fewestWalls_22 rfl ?_
      refine r_icmp_eq 26 39 rfl dX9_fewestWalls_23 rfl (fun q__ => absurd q__ (nI_m1 (by omega))) (fun _ => ?_)
      refine r_iload 28 rfl dX9_fewestWalls_26 rfl ?_
      refine q_S 31 0 0 rfl [.int (nI b)] rfl dX9_fewestWalls_28 cl_X9_fewestWalls__J6_bitCount_0f7a4 (lk_X9_208 rfl) st_J6_bitCount_0f7a4 (Nat.le_of_ble_eq_true rfl) (fun _ _ => Nat.le_of_ble_eq_true rfl) rfl rfl (Nat.le_of_ble_eq_true rfl) (Nat.le_of_ble_eq_true rfl) ?_
      refine c_bitc hb6 (k_i ?_)
      refine r_iload 33 rfl dX9_fewestWalls_31 rfl ?_
      refine q_S 36 0 0 rfl [.int (nI x)] rfl dX9_fewestWalls_33 cl_X9_fewestWalls__J6_bitCount_0f7a4 (lk_X9_208 rfl) st_J6_bitCount_0f7a4 (Nat.le_of_ble_eq_true rfl) (fun _ _ => Nat.le_of_ble_eq_true rfl) rfl rfl (Nat.le_of_ble_eq_true rfl) (Nat.le_of_ble_eq_true rfl) ?_
      refine c_bitc (b := x) (by omega) (k_i ?_)
      refine r_icmp_ge 39 43 rfl dX9_fewestWalls_36 rfl (fun c36 => ?_) (fun c36 => ?_)
      · replace c36 : on x ≤ on b := (nI_leI (a := (on x)) (b := (on b)) (by omega) (by omega)).mp c36
        refine r_iconst 44 rfl 0 dX9_fewestWalls_43 rfl ?_
        refine r_istore 46 rfl [some (.ref 1), some (.int (nI c)), some (.int (nI p)), some (.int (fr2 D c (D 7 1))), some (.int (nI x)), some (.int (nI b)), some (.int 0)] dX9_fewestWalls_44 (by decide) rfl ?_
        refine r_iload 48 rfl dX9_fewestWalls_46 rfl ?_
        refine r_iload_n 49 rfl 3 dX9_fewestWalls_48 rfl rfl ?_
        refine r_iconst 50 rfl (-1) dX9_fewestWalls_49 rfl ?_
        refine r_ixor 51 rfl dX9_fewestWalls_50 ?_
        refine r_iand 52 rfl dX9_fewestWalls_51 ?_
        refine r_if_ne 55 98 rfl dX9_fewestWalls_52 rfl (fun c52 => ?_) (fun c52 => ?_)
        · refine r_iinc 101 rfl (nI (b + 1)) [some (.ref 1), some (.int (nI c)), some (.int (nI p)), some (.int (fr2 D c (D 7 1))), some (.int (nI x)), some (.int (nI (b + 1))), some (.int 0)] dX9_fewestWalls_98 rfl (nI_1 _) (by decide) rfl ?_
          refine r_goto 12 dX9_fewestWalls_101 rfl ?_
          refine AW.drop 6 [some (.ref 1), some (.int (nI c)), some (.int (nI p)), some (.int (fr2 D c (D 7 1))), some (.int (nI x)), some (.int (nI (b + 1))), none] rfl ?_
          rw [show wb D c p (b + 1) = wb D c p b from wb_n1 (fun q => c52 (of_decide_eq_true q))] at hx
          rw [ho] at hx
          exact hx m' hag
        · refine r_iload 57 rfl dX9_fewestWalls_55 rfl ?_
          refine r_if_eq 60 98 rfl dX9_fewestWalls_57 rfl (fun _ => ?_) (fun q__ => absurd (by decide) q__)
          refine r_iinc 101 rfl (nI (b + 1)) [some (.ref 1), some (.int (nI c)), some (.int (nI p)), some (.int (fr2 D c (D 7 1))), some (.int (nI x)), some (.int (nI (b + 1))), some (.int 0)] dX9_fewestWalls_98 rfl (nI_1 _) (by decide) rfl ?_
          refine r_goto 12 dX9_fewestWalls_101 rfl ?_
          refine AW.drop 6 [some (.ref 1), some (.int (nI c)), some (.int (nI p)), some (.int (fr2 D c (D 7 1))), some (.int (nI x)), some (.int (nI (b + 1))), none] rfl ?_
          rw [show wb D c p (b + 1) = wb D c p b from wb_n2 (fun q => by rw [ho] at q; have q := of_decide_eq_true (show decide (on b < on x) = true from q); omega)] at hx
          rw [ho] at hx
          exact hx m' hag
      · replace c36 : ¬ (on x) ≤ (on b) := fun q__ => c36 ((nI_leI (a := (on x)) (b := (on b)) (by omega) (by omega)).mpr q__)
        refine r_iconst 40 rfl 1 dX9_fewestWalls_39 rfl ?_
        refine r_goto 44 dX9_fewestWalls_40 rfl ?_
        refine r_istore 46 rfl [some (.ref 1), some (.int (nI c)), some (.int (nI p)), some (.int (fr2 D c (D 7 1))), some (.int (nI x)), some (.int (nI b)), some (.int 1)] dX9_fewestWalls_44 (by decide) rfl ?_
        refine r_iload 48 rfl dX9_fewestWalls_46 rfl ?_
        refine r_iload_n 49 rfl 3 dX9_fewestWalls_48 rfl rfl ?_
        refine r_iconst 50 rfl (-1) dX9_fewestWalls_49 rfl ?_
        refine r_ixor 51 rfl dX9_fewestWalls_50 ?_
        refine r_iand 52 rfl dX9_fewestWalls_51 ?_
        refine r_if_ne 55 98 rfl dX9_fewestWalls_52 rfl (fun c52 => ?_) (fun c52 => ?_)
        · refine r_iinc 101 rfl (nI (b + 1)) [some (.ref 1), some (.int (nI c)), some (.int (nI p)), some (.int (fr2 D c (D 7 1))), some (.int (nI x)), some (.int (nI (b + 1))), some (.int 1)] dX9_fewestWalls_98 rfl (nI_1 _) (by decide) rfl ?_
          refine r_goto 12 dX9_fewestWalls_101 rfl ?_
          refine AW.drop 6 [some (.ref 1), some (.int (nI c)), some (.int (nI p)), some (.int (fr2 D c (D 7 1))), some (.int (nI x)), some (.int (nI (b + 1))), none] rfl ?_
          rw [show wb D c p (b + 1) = wb D c p b from wb_n1 (fun q => c52 (of_decide_eq_true q))] at hx
          rw [ho] at hx
          exact hx m' hag
        · refine r_iload 57 rfl dX9_fewestWalls_55 rfl ?_
          refine r_if_eq 60 98 rfl dX9_fewestWalls_57 rfl (fun q__ => absurd q__ (by decide)) (fun _ => ?_)
          refine r_aload_n 61 rfl 0 dX9_fewestWalls_60 rfl rfl ?_
          refine r_getf (v := .ref 28) (k := 6) 64 rfl dX9_fewestWalls_61 (gf_X9_45_9 rfl) rfl rfl ?_
          refine r_aload_n 65 rfl 0 dX9_fewestWalls_64 rfl rfl ?_
          refine r_getf (v := .ref 4) (k := 1) 68 rfl dX9_fewestWalls_65 (gf_X9_19_9 rfl) rfl rfl ?_
          refine r_aload_n 69 rfl 0 dX9_fewestWalls_68 rfl rfl ?_
          refine r_getf (v := .ref 6) (k := 2) 72 rfl dX9_fewestWalls_69 (gf_X9_25_9 rfl) rfl rfl ?_
          refine r_aload_n 73 rfl 0 dX9_fewestWalls_72 rfl rfl ?_
          refine r_getf (v := .ref 7) (k := 3) 76 rfl dX9_fewestWalls_73 (gf_X9_32_9 rfl) rfl rfl ?_
          refine r_iload 78 rfl dX9_fewestWalls_76 rfl ?_
          refine q_V 81 0 0 rfl [.ref 4, .ref 6, .ref 7, .int (nI b)] rfl dX9_fewestWalls_78 cl_X9_fewestWalls__X0_settle (lk_X9_247 rfl) im_X0_settle (ci := 0) rfl sl_X0__X0_settle rfl (Nat.le_of_ble_eq_true rfl) (fun _ _ => Nat.le_of_ble_eq_true rfl) rfl rfl (Nat.le_of_ble_eq_true rfl) (Nat.le_of_ble_eq_true rfl) ?_
          refine c_settle_7 (wl := nI b) (D 0) hg hfd hf0 hf3 hns hn6 hsd hsb hwi hw4 hfr hr1 hhr hh (fun m2 _ _ h31 hag2 => (k_v ?_))
          have e31 : m2 31 c = WH (wW D b) c := by rw [h31 c hc, ← AM_wW hb6]; rfl
          refine r_aload_n 82 rfl 0 dX9_fewestWalls_81 rfl rfl ?_
          refine r_getf (v := .ref 28) (k := 6) 85 rfl dX9_fewestWalls_82 (gf_X9_45_9 rfl) rfl rfl ?_
          refine r_getf (v := .ref 31) (k := 2) 88 rfl dX9_fewestWalls_85 (gf_X9_183_0 rfl) rfl rfl ?_
          refine r_iload_n 89 rfl 1 dX9_fewestWalls_88 rfl rfl ?_
          refine r_iald (f := m2 31) 90 rfl c dX9_fewestWalls_89 rfl rfl (by omega) (by decide) ?_
          rw [show (m2 31) c = WH (wW D b) c from e31]
          refine r_iload_n 91 rfl 2 dX9_fewestWalls_90 rfl rfl ?_
          refine r_icmp_eq 94 98 rfl dX9_fewestWalls_91 rfl (fun c91 => ?_) (fun c91 => ?_)
          · refine r_iinc 101 rfl (nI (b + 1)) [some (.ref 1), some (.int (nI c)), some (.int (nI p)), some (.int (fr2 D c (D 7 1))), some (.int (nI x)), some (.int (nI (b + 1))), some (.int 1)] dX9_fewestWalls_98 rfl (nI_1 _) (by decide) rfl ?_
            refine r_goto 12 dX9_fewestWalls_101 rfl ?_
            refine AW.drop 6 [some (.ref 1), some (.int (nI c)), some (.int (nI p)), some (.int (fr2 D c (D 7 1))), some (.int (nI x)), some (.int (nI (b + 1))), none] rfl ?_
            rw [show wb D c p (b + 1) = wb D c p b from wb_n3 c91] at hx
            rw [ho] at hx
            exact hx m2 (ag_t hag hag2 (by decide))
          · refine r_iload 96 rfl dX9_fewestWalls_94 rfl ?_
            refine r_istore 98 rfl [some (.ref 1), some (.int (nI c)), some (.int (nI p)), some (.int (fr2 D c (D 7 1))), some (.int (nI b)), some (.int (nI b)), some (.int 1)] dX9_fewestWalls_96 (by decide) rfl ?_
            refine r_iinc 101 rfl (nI (b + 1)) [some (.ref 1), some (.int (nI c)), some (.int (nI p)), some (.int (fr2 D c (D 7 1))), some (.int (nI b)), some (.int (nI (b + 1))), some (.int 1)] dX9_fewestWalls_98 rfl (nI_1 _) (by decide) rfl ?_
            refine r_goto 12 dX9_fewestWalls_101 rfl ?_
            refine AW.drop 6 [some (.ref 1), some (.int (nI c)), some (.int (nI p)), some (.int (fr2 D c (D 7 1))), some (.int (nI b)), some (.int (nI (b + 1))), none] rfl ?_
            rw [show wb D c p (b + 1) = some b from wb_y (decide_eq_true c52) (by rw [ho]; exact decide_eq_true (show on b < on x by omega)) c91] at hx
            exact hx m2 (ag_t hag hag2 (by decide))

set_option maxHeartbeats 4000000 in
set_option maxRecDepth 20000 in
theorem c_few9 {Q : am_P} {z : am_Z} {m : Nat → Nat → Int32} {n : Nat} {D : Nat → Nat → Nat} (hC : C9 z m D) {c p : Nat} (hc : c < 8) (hp : p < 3) (k : ∀ m', ag [29, 30, 31, 32] m m' → Q (some (.int (oI (wb D c p 256)))) (wd z m') n) : AW mX9_fewestWalls Q 0 (am_ent (am_l mX9_fewestWalls) [.ref 1, .int (nI c), .int (nI p)]) [] (wd z m) n 0 0 := by
  show AW _ _ 0 [some (.ref 1), some (.int (nI c)), some (.int (nI p)), none, none, none, none] [] _ _ 0 0
  refine r_aload_n 1 rfl 0 dX9_fewestWalls_0 rfl rfl ?_
  refine r_iload_n 2 rfl 1 dX9_fewestWalls_1 rfl rfl ?_
  refine q_V 5 0 0 rfl [.int (nI c)] rfl dX9_fewestWalls_2 cl_X9_fewestWalls__X9_cellsFreeForWalls (lk_X9_325 rfl) im_X9_cellsFreeForWalls (ci := 9) rfl sl_X9__X9_cellsFreeForWalls rfl (Nat.le_of_ble_eq_true rfl) (fun _ _ => Nat.le_of_ble_eq_true rfl) rfl rfl (Nat.le_of_ble_eq_true rfl) (Nat.le_of_ble_eq_true rfl) ?_
  refine c_free9 hC hc (k_i ?_)
  refine r_istore_n 6 rfl 3 [some (.ref 1), some (.int (nI c)), some (.int (nI p)), some (.int (fr2 D c (D 7 1))), none, none, none] dX9_fewestWalls_5 rfl (by decide) rfl ?_
  refine r_iconst 7 rfl (-1) dX9_fewestWalls_6 rfl ?_
  refine r_istore 9 rfl [some (.ref 1), some (.int (nI c)), some (.int (nI p)), some (.int (fr2 D c (D 7 1))), some (.int (-1)), none, none] dX9_fewestWalls_7 (by decide) rfl ?_
  refine r_iconst 10 rfl 0 dX9_fewestWalls_9 rfl ?_
  refine r_istore 12 rfl [some (.ref 1), some (.int (nI c)), some (.int (nI p)), some (.int (fr2 D c (D 7 1))), some (.int (-1)), some (.int 0), none] dX9_fewestWalls_10 (by decide) rfl ?_
  exact lp_few9 hC hc hp k 256 0 rfl m (ag_r _ _)
