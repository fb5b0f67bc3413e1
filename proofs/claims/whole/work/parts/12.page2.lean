set_option maxHeartbeats 4000000 in
set_option maxRecDepth 20000 in
theorem c_in_t {Q : am_P} {h : Nat → am_E} {n : Nat} {v lo hi : Int64} (h1 : lo.toInt ≤ v.toInt) (h2 : v.toInt ≤ hi.toInt) (k : Q (some (.int 1)) h n) : AW mX10_in Q 0 (am_ent (am_l mX10_in) [.long v, .long lo, .long hi]) [] (h) n 0 0 := by
  show AW _ _ 0 [some (.long v), none, some (.long lo), none, some (.long hi), none] [] _ _ 0 0
  refine r_lload_n 1 rfl 0 dX10_in_0 rfl rfl ?_
  refine r_lload_n 2 rfl 2 dX10_in_1 rfl rfl ?_
  refine r_lcmp 3 rfl dX10_in_2 ?_
  refine r_if_lt 6 17 rfl dX10_in_3 rfl (fun q__ => absurd q__ (lgc_nlt h1)) (fun _ => ?_)
  refine r_lload_n 7 rfl 0 dX10_in_6 rfl rfl ?_
  refine r_lload 9 rfl dX10_in_7 rfl ?_
  refine r_lcmp 10 rfl dX10_in_9 ?_
  refine r_if_gt 13 17 rfl dX10_in_10 rfl (fun q__ => absurd q__ (lgc_ngt h2)) (fun _ => ?_)
  refine r_iconst 14 rfl 1 dX10_in_13 rfl ?_
  refine r_goto 18 dX10_in_14 rfl ?_
  refine r_zreturn rfl rfl dX10_in_18 (Nat.le_of_ble_eq_true rfl) (Nat.le_of_ble_eq_true rfl) ?_
  exact k

set_option maxHeartbeats 4000000 in
set_option maxRecDepth 20000 in
theorem c_in_f1 {Q : am_P} {h : Nat → am_E} {n : Nat} {v lo hi : Int64} (h1 : v.toInt < lo.toInt) (k : Q (some (.int 0)) h n) : AW mX10_in Q 0 (am_ent (am_l mX10_in) [.long v, .long lo, .long hi]) [] (h) n 0 0 := by
  show AW _ _ 0 [some (.long v), none, some (.long lo), none, some (.long hi), none] [] _ _ 0 0
  refine r_lload_n 1 rfl 0 dX10_in_0 rfl rfl ?_
  refine r_lload_n 2 rfl 2 dX10_in_1 rfl rfl ?_
  refine r_lcmp 3 rfl dX10_in_2 ?_
  refine r_if_lt 6 17 rfl dX10_in_3 rfl (fun _ => ?_) (fun q__ => absurd (lgc_lt h1) q__)
  refine r_iconst 18 rfl 0 dX10_in_17 rfl ?_
  refine r_zreturn rfl rfl dX10_in_18 (Nat.le_of_ble_eq_true rfl) (Nat.le_of_ble_eq_true rfl) ?_
  exact k

set_option maxHeartbeats 4000000 in
set_option maxRecDepth 20000 in
theorem c_in_f2 {Q : am_P} {h : Nat → am_E} {n : Nat} {v lo hi : Int64} (h1 : lo.toInt ≤ v.toInt) (h2 : hi.toInt < v.toInt) (k : Q (some (.int 0)) h n) : AW mX10_in Q 0 (am_ent (am_l mX10_in) [.long v, .long lo, .long hi]) [] (h) n 0 0 := by
  show AW _ _ 0 [some (.long v), none, some (.long lo), none, some (.long hi), none] [] _ _ 0 0
  refine r_lload_n 1 rfl 0 dX10_in_0 rfl rfl ?_
  refine r_lload_n 2 rfl 2 dX10_in_1 rfl rfl ?_
  refine r_lcmp 3 rfl dX10_in_2 ?_
  refine r_if_lt 6 17 rfl dX10_in_3 rfl (fun q__ => absurd q__ (lgc_nlt h1)) (fun _ => ?_)
  refine r_lload_n 7 rfl 0 dX10_in_6 rfl rfl ?_
  refine r_lload 9 rfl dX10_in_7 rfl ?_
  refine r_lcmp 10 rfl dX10_in_9 ?_
  refine r_if_gt 13 17 rfl dX10_in_10 rfl (fun _ => ?_) (fun q__ => absurd (lgc_gt h2) q__)
  refine r_iconst 18 rfl 0 dX10_in_17 rfl ?_
  refine r_zreturn rfl rfl dX10_in_18 (Nat.le_of_ble_eq_true rfl) (Nat.le_of_ble_eq_true rfl) ?_
  exact k

theorem c_in_f {Q : am_P} {h : Nat → am_E} {n : Nat} {v lo hi : Int64} (hh : v.toInt < lo.toInt ∨ hi.toInt < v.toInt) (k : Q (some (.int 0)) h n) : AW mX10_in Q 0 (am_ent (am_l mX10_in) [.long v, .long lo, .long hi]) [] h n 0 0 := by
  by_cases h1 : v.toInt < lo.toInt
  · exact c_in_f1 h1 k
  · exact c_in_f2 (by omega) (by omega) k

set_option maxHeartbeats 4000000 in
set_option maxRecDepth 20000 in
theorem c9_letter_o {Q : am_P} {z : am_Z} {m : Nat → Nat → Int32} {n : Nat} {code : Int32} (hc : code.toInt < 1 ∨ 126 < code.toInt) (k : Q (some (.int (-102))) (wd z m) n) : AW mX9_letter Q 0 (am_ent (am_l mX9_letter) [.ref 1, .int code]) [] (wd z m) n 0 0 := by
  show AW _ _ 0 [some (.ref 1), some (.int code)] [] _ _ 0 0
  refine r_iload_n 1 rfl 1 dX9_letter_0 rfl rfl ?_
  refine r_iconst 2 rfl 1 dX9_letter_1 rfl ?_
  refine r_icmp_lt 5 11 rfl dX9_letter_2 rfl (fun c2 => ?_) (fun c2 => ?_)
  · replace c2 : code.toInt < (1 : Int) := Int32.lt_iff_toInt_lt.mp c2
    refine r_bipush 13 rfl (-102) dX9_letter_11 (by decide) ?_
    refine r_ireturn rfl dX9_letter_13 (Nat.le_of_ble_eq_true rfl) (Nat.le_of_ble_eq_true rfl) ?_
    exact k
  · replace c2 : ¬ code.toInt < (1 : Int) := fun q__ => c2 (Int32.lt_iff_toInt_lt.mpr q__)
    refine r_iload_n 6 rfl 1 dX9_letter_5 rfl rfl ?_
    refine r_bipush 8 rfl 126 dX9_letter_6 (by decide) ?_
    refine r_icmp_le 11 14 rfl dX9_letter_8 rfl (fun c8 => ?_) (fun c8 => ?_)
    · replace c8 : code.toInt ≤ (126 : Int) := Int32.le_iff_toInt_le.mp c8
      exfalso; omega
    · replace c8 : ¬ code.toInt ≤ (126 : Int) := fun q__ => c8 (Int32.le_iff_toInt_le.mpr q__)
      refine r_bipush 13 rfl (-102) dX9_letter_11 (by decide) ?_
      refine r_ireturn rfl dX9_letter_13 (Nat.le_of_ble_eq_true rfl) (Nat.le_of_ble_eq_true rfl) ?_
      exact k

set_option maxHeartbeats 4000000 in
set_option maxRecDepth 20000 in
theorem c9_letter_f {Q : am_P} {z : am_Z} {m : Nat → Nat → Int32} {n : Nat} {code : Int32} (hc1 : 1 ≤ code.toInt) (hc2 : code.toInt ≤ 126) (hpm : m 2 1 = nI 14) (k : Q (some (.int (-104))) (wd z m) n) : AW mX9_letter Q 0 (am_ent (am_l mX9_letter) [.ref 1, .int code]) [] (wd z m) n 0 0 := by
  show AW _ _ 0 [some (.ref 1), some (.int code)] [] _ _ 0 0
  refine r_iload_n 1 rfl 1 dX9_letter_0 rfl rfl ?_
  refine r_iconst 2 rfl 1 dX9_letter_1 rfl ?_
  refine r_icmp_lt 5 11 rfl dX9_letter_2 rfl (fun q__ => absurd q__ (fun q__ => absurd (show code.toInt < (1 : Int) from Int32.lt_iff_toInt_lt.mp q__) (by omega))) (fun _ => ?_)
  refine r_iload_n 6 rfl 1 dX9_letter_5 rfl rfl ?_
  refine r_bipush 8 rfl 126 dX9_letter_6 (by decide) ?_
  refine r_icmp_le 11 14 rfl dX9_letter_8 rfl (fun _ => ?_) (fun q__ => absurd (Int32.le_iff_toInt_le.mpr (show code.toInt ≤ (126 : Int) by omega)) q__)
  refine r_aload_n 15 rfl 0 dX9_letter_14 rfl rfl ?_
  refine r_getf (v := .ref 2) (k := 0) 18 rfl dX9_letter_15 (gf_X9_12_9 rfl) rfl rfl ?_
  refine q_V 21 0 0 rfl [] rfl dX9_letter_18 cl_X9_letter__X3_isFull (lk_X9_62 rfl) im_X3_isFull (ci := 3) rfl sl_X3__X3_isFull rfl (Nat.le_of_ble_eq_true rfl) (fun _ _ => Nat.le_of_ble_eq_true rfl) rfl rfl (Nat.le_of_ble_eq_true rfl) (Nat.le_of_ble_eq_true rfl) ?_
  refine c_isFull_t hpm (by omega) rfl (k_i ?_)
  refine r_if_eq 24 27 rfl dX9_letter_21 rfl (fun q__ => absurd q__ (by decide)) (fun _ => ?_)
  refine r_bipush 26 rfl (-104) dX9_letter_24 (by decide) ?_
  refine r_ireturn rfl dX9_letter_26 (Nat.le_of_ble_eq_true rfl) (Nat.le_of_ble_eq_true rfl) ?_
  exact k

set_option maxHeartbeats 4000000 in
set_option maxRecDepth 20000 in
theorem c9_letter_t {Q : am_P} {z : am_Z} {m : Nat → Nat → Int32} {n : Nat} {code : Int32} (hc1 : 1 ≤ code.toInt) (hc2 : code.toInt ≤ 126) {pm : Nat} (hpm : m 2 1 = nI pm) (hpl : pm ≤ 14) (hf : pm < 14) (k : ∀ m', m' 2 = upd (m 2) 1 (nI (pm + 1)) → m' 3 = upd (m 3) pm code → ag [2, 3] m m' → Q (some (.int (nI (pm + 1)))) (wd z m') n) : AW mX9_letter Q 0 (am_ent (am_l mX9_letter) [.ref 1, .int code]) [] (wd z m) n 0 0 := by
  show AW _ _ 0 [some (.ref 1), some (.int code)] [] _ _ 0 0
  refine r_iload_n 1 rfl 1 dX9_letter_0 rfl rfl ?_
  refine r_iconst 2 rfl 1 dX9_letter_1 rfl ?_
  refine r_icmp_lt 5 11 rfl dX9_letter_2 rfl (fun q__ => absurd q__ (fun q__ => absurd (show code.toInt < (1 : Int) from Int32.lt_iff_toInt_lt.mp q__) (by omega))) (fun _ => ?_)
  refine r_iload_n 6 rfl 1 dX9_letter_5 rfl rfl ?_
  refine r_bipush 8 rfl 126 dX9_letter_6 (by decide) ?_
  refine r_icmp_le 11 14 rfl dX9_letter_8 rfl (fun _ => ?_) (fun q__ => absurd (Int32.le_iff_toInt_le.mpr (show code.toInt ≤ (126 : Int) by omega)) q__)
  refine r_aload_n 15 rfl 0 dX9_letter_14 rfl rfl ?_
  refine r_getf (v := .ref 2) (k := 0) 18 rfl dX9_letter_15 (gf_X9_12_9 rfl) rfl rfl ?_
  refine q_V 21 0 0 rfl [] rfl dX9_letter_18 cl_X9_letter__X3_isFull (lk_X9_62 rfl) im_X3_isFull (ci := 3) rfl sl_X3__X3_isFull rfl (Nat.le_of_ble_eq_true rfl) (fun _ _ => Nat.le_of_ble_eq_true rfl) rfl rfl (Nat.le_of_ble_eq_true rfl) (Nat.le_of_ble_eq_true rfl) ?_
  refine c_isFull_f hpm hpl hf (k_i ?_)
  refine r_if_eq 24 27 rfl dX9_letter_21 rfl (fun _ => ?_) (fun q__ => absurd (by decide) q__)
  refine r_aload_n 28 rfl 0 dX9_letter_27 rfl rfl ?_
  refine r_getf (v := .ref 2) (k := 0) 31 rfl dX9_letter_28 (gf_X9_12_9 rfl) rfl rfl ?_
  refine r_iload_n 32 rfl 1 dX9_letter_31 rfl rfl ?_
  refine q_V 35 0 0 rfl [.int code] rfl dX9_letter_32 cl_X9_letter__X3_append (lk_X9_66 rfl) im_X3_append (ci := 3) rfl sl_X3__X3_append rfl (Nat.le_of_ble_eq_true rfl) (fun _ _ => Nat.le_of_ble_eq_true rfl) rfl rfl (Nat.le_of_ble_eq_true rfl) (Nat.le_of_ble_eq_true rfl) ?_
  refine c_X3_append hpm hpl hf (k_v ?_)
  refine r_aload_n 36 rfl 0 dX9_letter_35 rfl rfl ?_
  refine r_getf (v := .ref 2) (k := 0) 39 rfl dX9_letter_36 (gf_X9_12_9 rfl) rfl rfl ?_
  refine r_getf (v := .int (nI (pm + 1))) (k := 1) 42 rfl dX9_letter_39 (gf_X9_70_3 rfl) rfl rfl ?_
  refine r_ireturn rfl dX9_letter_42 (Nat.le_of_ble_eq_true rfl) (Nat.le_of_ble_eq_true rfl) ?_
  exact k _ rfl rfl (ag_up (ag_up (ag_r _ _) (by decide)) (by decide))

set_option maxHeartbeats 4000000 in
set_option maxRecDepth 20000 in
theorem c10_letter_o {Q : am_P} {z : am_Z} {m : Nat → Nat → Int32} {n : Nat} {code : Int32} (hc : code.toInt < 1 ∨ 126 < code.toInt) (k : Q (some (.int (-102))) (wd z m) n) : AW mX10_letter Q 0 (am_ent (am_l mX10_letter) [.ref 37, .int code]) [] (wd z m) n 0 0 := by
  show AW _ _ 0 [some (.ref 37), some (.int code)] [] _ _ 0 0
  refine r_iload_n 1 rfl 1 dX10_letter_0 rfl rfl ?_
  refine r_i2l 2 rfl dX10_letter_1 ?_
  refine r_lconst 3 rfl 1 dX10_letter_2 rfl ?_
  refine r_ldc2 6 rfl 126 dX10_letter_3 (cn_X10_62 rfl) ?_
  refine q_S 9 0 0 rfl [.long code.toInt64, .long 1, .long 126] rfl dX10_letter_6 cl_X10_letter__X10_in (lk_X10_64 rfl) st_X10_in (Nat.le_of_ble_eq_true rfl) (fun _ _ => Nat.le_of_ble_eq_true rfl) rfl rfl (Nat.le_of_ble_eq_true rfl) (Nat.le_of_ble_eq_true rfl) ?_
  refine c_in_f (show code.toInt64.toInt < (1 : Int) ∨ (126 : Int) < code.toInt64.toInt by rw [Int32.toInt_toInt64]; omega) (k_i ?_)
  refine r_if_ne 12 15 rfl dX10_letter_9 rfl (fun q__ => absurd (by decide) q__) (fun _ => ?_)
  refine r_bipush 14 rfl (-102) dX10_letter_12 (by decide) ?_
  refine r_ireturn rfl dX10_letter_14 (Nat.le_of_ble_eq_true rfl) (Nat.le_of_ble_eq_true rfl) ?_
  exact k

set_option maxHeartbeats 4000000 in
set_option maxRecDepth 20000 in
theorem c10_letter_f {Q : am_P} {z : am_Z} {m : Nat → Nat → Int32} {n : Nat} {code : Int32} (hc1 : 1 ≤ code.toInt) (hc2 : code.toInt ≤ 126) (hpm : m 37 1 = nI 14) (k : Q (some (.int (-104))) (wd z m) n) : AW mX10_letter Q 0 (am_ent (am_l mX10_letter) [.ref 37, .int code]) [] (wd z m) n 0 0 := by
  show AW _ _ 0 [some (.ref 37), some (.int code)] [] _ _ 0 0
  refine r_iload_n 1 rfl 1 dX10_letter_0 rfl rfl ?_
  refine r_i2l 2 rfl dX10_letter_1 ?_
  refine r_lconst 3 rfl 1 dX10_letter_2 rfl ?_
  refine r_ldc2 6 rfl 126 dX10_letter_3 (cn_X10_62 rfl) ?_
  refine q_S 9 0 0 rfl [.long code.toInt64, .long 1, .long 126] rfl dX10_letter_6 cl_X10_letter__X10_in (lk_X10_64 rfl) st_X10_in (Nat.le_of_ble_eq_true rfl) (fun _ _ => Nat.le_of_ble_eq_true rfl) rfl rfl (Nat.le_of_ble_eq_true rfl) (Nat.le_of_ble_eq_true rfl) ?_
  refine c_in_t (show (1 : Int) ≤ code.toInt64.toInt by rw [Int32.toInt_toInt64]; omega) (show code.toInt64.toInt ≤ (126 : Int) by rw [Int32.toInt_toInt64]; omega) (k_i ?_)
  refine r_if_ne 12 15 rfl dX10_letter_9 rfl (fun _ => ?_) (fun q__ => absurd q__ (by decide))
  refine r_aload_n 16 rfl 0 dX10_letter_15 rfl rfl ?_
  refine r_getf (v := .int ((m 37) 1)) (k := 1) 19 rfl dX10_letter_16 (gf_X10_68_10 rfl) rfl rfl ?_
  rw [show (m 37) 1 = nI 14 from hpm]
  refine r_bipush 21 rfl 14 dX10_letter_19 (by decide) ?_
  refine r_icmp_ne 24 27 rfl dX10_letter_21 rfl (fun q__ => absurd ((nI_eq (a := 14) (b := 14) (by omega) (by omega)).mpr (by omega)) q__) (fun _ => ?_)
  refine r_bipush 26 rfl (-104) dX10_letter_24 (by decide) ?_
  refine r_ireturn rfl dX10_letter_26 (Nat.le_of_ble_eq_true rfl) (Nat.le_of_ble_eq_true rfl) ?_
  exact k

set_option maxHeartbeats 4000000 in
set_option maxRecDepth 20000 in
theorem c10_letter_t {Q : am_P} {z : am_Z} {m : Nat → Nat → Int32} {n : Nat} {code : Int32} (hc1 : 1 ≤ code.toInt) (hc2 : code.toInt ≤ 126) {pm : Nat} (hpm : m 37 1 = nI pm) (hpl : pm ≤ 14) (hf : pm < 14) (k : ∀ m', m' 37 = upd (m 37) 1 (nI (pm + 1)) → m' 38 = upd (m 38) pm code → ag [37, 38] m m' → Q (some (.int (nI (pm + 1)))) (wd z m') n) : AW mX10_letter Q 0 (am_ent (am_l mX10_letter) [.ref 37, .int code]) [] (wd z m) n 0 0 := by
  show AW _ _ 0 [some (.ref 37), some (.int code)] [] _ _ 0 0
  refine r_iload_n 1 rfl 1 dX10_letter_0 rfl rfl ?_
  refine r_i2l 2 rfl dX10_letter_1 ?_
  refine r_lconst 3 rfl 1 dX10_letter_2 rfl ?_
  refine r_ldc2 6 rfl 126 dX10_letter_3 (cn_X10_62 rfl) ?_
  refine q_S 9 0 0 rfl [.long code.toInt64, .long 1, .long 126] rfl dX10_letter_6 cl_X10_letter__X10_in (lk_X10_64 rfl) st_X10_in (Nat.le_of_ble_eq_true rfl) (fun _ _ => Nat.le_of_ble_eq_true rfl) rfl rfl (Nat.le_of_ble_eq_true rfl) (Nat.le_of_ble_eq_true rfl) ?_
  refine c_in_t (show (1 : Int) ≤ code.toInt64.toInt by rw [Int32.toInt_toInt64]; omega) (show code.toInt64.toInt ≤ (126 : Int) by rw [Int32.toInt_toInt64]; omega) (k_i ?_)
  refine r_if_ne 12 15 rfl dX10_letter_9 rfl (fun _ => ?_) (fun q__ => absurd q__ (by decide))
  refine r_aload_n 16 rfl 0 dX10_letter_15 rfl rfl ?_
  refine r_getf (v := .int ((m 37) 1)) (k := 1) 19 rfl dX10_letter_16 (gf_X10_68_10 rfl) rfl rfl ?_
  rw [show (m 37) 1 = nI pm from hpm]
  refine r_bipush 21 rfl 14 dX10_letter_19 (by decide) ?_
  refine r_icmp_ne 24 27 rfl dX10_letter_21 rfl (fun _ => ?_) (fun q__ => absurd q__ (fun q__ => absurd ((nI_eq (a := pm) (b := 14) (by omega) (by omega)).mp q__) (by omega)))
  refine r_aload_n 28 rfl 0 dX10_letter_27 rfl rfl ?_
  refine r_getf (v := .ref 38) (k := 0) 31 rfl dX10_letter_28 (gf_X10_7_10 rfl) rfl rfl ?_
  refine r_aload_n 32 rfl 0 dX10_letter_31 rfl rfl ?_
  refine r_getf (v := .int ((m 37) 1)) (k := 1) 35 rfl dX10_letter_32 (gf_X10_68_10 rfl) rfl rfl ?_
  rw [show (m 37) 1 = nI pm from hpm]
  refine r_iload_n 36 rfl 1 dX10_letter_35 rfl rfl ?_
  refine w_iast 37 rfl pm (va_up m 38 (upd (m 38) pm code)) dX10_letter_36 (by decide) (by decide) (fun _ => rfl) rfl (by omega) (by decide) rfl ?_
  refine r_aload_n 38 rfl 0 dX10_letter_37 rfl rfl ?_
  refine r_dup 39 rfl dX10_letter_38 rfl ?_
  refine r_getf (v := .int ((m 37) 1)) (k := 1) 42 rfl dX10_letter_39 (gf_X10_68_10 rfl) rfl rfl ?_
  rw [show (m 37) 1 = nI pm from hpm]
  refine r_iconst 43 rfl 1 dX10_letter_42 rfl ?_
  refine r_iadd 44 rfl dX10_letter_43 ?_
  rw [show (nI pm) + 1 = nI (pm + 1) from nI_add pm 1]
  refine w_putf 47 rfl (k := 1) (va_up (va_up m 38 (upd (m 38) pm code)) 37 (upd (m 37) 1 (nI (pm + 1)))) dX10_letter_44 (pf_X10_68_10 rfl) (by decide) (by decide) rfl (Nat.le_of_ble_eq_true rfl) rfl ⟨rfl, rfl⟩ rfl ?_
  refine r_aload_n 48 rfl 0 dX10_letter_47 rfl rfl ?_
  refine r_getf (v := .int (nI (pm + 1))) (k := 1) 51 rfl dX10_letter_48 (gf_X10_68_10 rfl) rfl rfl ?_
  refine r_ireturn rfl dX10_letter_51 (Nat.le_of_ble_eq_true rfl) (Nat.le_of_ble_eq_true rfl) ?_
  exact k _ rfl rfl (ag_up (ag_up (ag_r _ _) (by decide)) (by decide))

set_option maxHeartbeats 4000000 in
set_option maxRecDepth 20000 in
theorem c_X10_blank {Q : am_P} {z : am_Z} {m : Nat → Nat → Int32} {n : Nat}  (k : Q (some (.int (m 37 1))) (wd z (va_up m 37 (upd (m 37) 1 0))) n) : AW mX10_blank Q 0 (am_ent (am_l mX10_blank) [.ref 37]) [] (wd z m) n 0 0 := by
  show AW _ _ 0 [some (.ref 37), none] [] _ _ 0 0
  refine r_aload_n 1 rfl 0 dX10_blank_0 rfl rfl ?_
  refine r_getf (v := .int ((m 37) 1)) (k := 1) 4 rfl dX10_blank_1 (gf_X10_68_10 rfl) rfl rfl ?_
  refine r_istore_n 5 rfl 1 [some (.ref 37), some (.int ((m 37) 1))] dX10_blank_4 rfl (by decide) rfl ?_
  refine r_aload_n 6 rfl 0 dX10_blank_5 rfl rfl ?_
  refine r_iconst 7 rfl 0 dX10_blank_6 rfl ?_
  refine w_putf 10 rfl (k := 1) (va_up m 37 (upd (m 37) 1 0)) dX10_blank_7 (pf_X10_68_10 rfl) (by decide) (by decide) rfl (Nat.le_of_ble_eq_true rfl) rfl ⟨rfl, rfl⟩ rfl ?_
  refine r_iload_n 11 rfl 1 dX10_blank_10 rfl rfl ?_
  refine r_ireturn rfl dX10_blank_11 (Nat.le_of_ble_eq_true rfl) (Nat.le_of_ble_eq_true rfl) ?_
  exact k

set_option maxHeartbeats 4000000 in
set_option maxRecDepth 20000 in
theorem c_X3_fits {Q : am_P} {h : Nat → am_E} {n : Nat} {p : Nat} {c : Int32} (hp : p < 14) (k1 : pg_fit p c = true → Q (some (.int 1)) h n) (k0 : ¬ pg_fit p c = true → Q (some (.int 0)) h n) : AW mX3_fits Q 0 (am_ent (am_l mX3_fits) [.int (nI p), .int c]) [] (h) n 0 0 := by
  show AW _ _ 0 [some (.int (nI p)), some (.int c)] [] _ _ 0 0
  refine r_iload_n 1 rfl 0 dX3_fits_0 rfl rfl ?_
  refine r_bipush 3 rfl 11 dX3_fits_1 (by decide) ?_
  refine r_icmp_lt 6 8 rfl dX3_fits_3 rfl (fun c3 => ?_) (fun c3 => ?_)
  · replace c3 : p < 11 := (nI_ltI (a := p) (b := 11) (by omega) (by omega)).mp c3
    refine r_iload_n 9 rfl 0 dX3_fits_8 rfl rfl ?_
    refine r_iconst 10 rfl 4 dX3_fits_9 rfl ?_
    refine r_icmp_ne 13 25 rfl dX3_fits_10 rfl (fun c10 => ?_) (fun c10 => ?_)
    · replace c10 : ¬ p = 4 := fun q__ => c10 ((nI_eq (a := p) (b := 4) (by omega) (by omega)).mpr q__)
      refine r_iload_n 26 rfl 0 dX3_fits_25 rfl rfl ?_
      refine r_bipush 28 rfl 9 dX3_fits_26 (by decide) ?_
      refine r_icmp_ne 31 43 rfl dX3_fits_28 rfl (fun c28 => ?_) (fun c28 => ?_)
      · replace c28 : ¬ p = 9 := fun q__ => c28 ((nI_eq (a := p) (b := 9) (by omega) (by omega)).mpr q__)
        refine r_iload_n 44 rfl 0 dX3_fits_43 rfl rfl ?_
        refine r_bipush 46 rfl 10 dX3_fits_44 (by decide) ?_
        refine r_icmp_ne 49 67 rfl dX3_fits_46 rfl (fun c46 => ?_) (fun c46 => ?_)
        · replace c46 : ¬ p = 10 := fun q__ => c46 ((nI_eq (a := p) (b := 10) (by omega) (by omega)).mpr q__)
          refine r_iload_n 68 rfl 1 dX3_fits_67 rfl rfl ?_
          refine r_bipush 70 rfl 46 dX3_fits_68 (by decide) ?_
          refine r_icmp_eq 73 85 rfl dX3_fits_70 rfl (fun c70 => ?_) (fun c70 => ?_)
          · refine r_iconst 86 rfl 1 dX3_fits_85 rfl ?_
            refine r_goto 90 dX3_fits_86 rfl ?_
            refine r_zreturn rfl rfl dX3_fits_90 (Nat.le_of_ble_eq_true rfl) (Nat.le_of_ble_eq_true rfl) ?_
            exact k1 (by unfold pg_fit; rw [if_neg (by omega), if_neg (by omega), if_neg (by omega), if_pos (by omega)]; first | (simp [*]; done) | simp [Int32.not_le.mpr c52] | simp [Int32.not_le.mpr c58] | simp [Int32.not_lt.mp c52, Int32.not_lt.mp c58])
          · refine r_iload_n 74 rfl 1 dX3_fits_73 rfl rfl ?_
            refine r_bipush 76 rfl 35 dX3_fits_74 (by decide) ?_
            refine r_icmp_eq 79 85 rfl dX3_fits_76 rfl (fun c76 => ?_) (fun c76 => ?_)
            · refine r_iconst 86 rfl 1 dX3_fits_85 rfl ?_
              refine r_goto 90 dX3_fits_86 rfl ?_
              refine r_zreturn rfl rfl dX3_fits_90 (Nat.le_of_ble_eq_true rfl) (Nat.le_of_ble_eq_true rfl) ?_
              exact k1 (by unfold pg_fit; rw [if_neg (by omega), if_neg (by omega), if_neg (by omega), if_pos (by omega)]; first | (simp [*]; done) | simp [Int32.not_le.mpr c52] | simp [Int32.not_le.mpr c58] | simp [Int32.not_lt.mp c52, Int32.not_lt.mp c58])
            · refine r_iload_n 80 rfl 1 dX3_fits_79 rfl rfl ?_
              refine r_bipush 82 rfl 119 dX3_fits_80 (by decide) ?_
              refine r_icmp_ne 85 89 rfl dX3_fits_82 rfl (fun c82 => ?_) (fun c82 => ?_)
              · refine r_iconst 90 rfl 0 dX3_fits_89 rfl ?_
                refine r_zreturn rfl rfl dX3_fits_90 (Nat.le_of_ble_eq_true rfl) (Nat.le_of_ble_eq_true rfl) ?_
                exact k0 (by unfold pg_fit; rw [if_neg (by omega), if_neg (by omega), if_neg (by omega), if_pos (by omega)]; first | (simp [*]; done) | simp [Int32.not_le.mpr c52] | simp [Int32.not_le.mpr c58] | simp [Int32.not_lt.mp c52, Int32.not_lt.mp c58])
              · refine r_iconst 86 rfl 1 dX3_fits_85 rfl ?_
                refine r_goto 90 dX3_fits_86 rfl ?_
                refine r_zreturn rfl rfl dX3_fits_90 (Nat.le_of_ble_eq_true rfl) (Nat.le_of_ble_eq_true rfl) ?_
                exact k1 (by unfold pg_fit; rw [if_neg (by omega), if_neg (by omega), if_neg (by omega), if_pos (by omega)]; first | (simp [*]; done) | simp [Int32.not_le.mpr c52] | simp [Int32.not_le.mpr c58] | simp [Int32.not_lt.mp c52, Int32.not_lt.mp c58])
        · replace c46 : p = 10 := (nI_eq (a := p) (b := 10) (by omega) (by omega)).mp c46
          refine r_iload_n 50 rfl 1 dX3_fits_49 rfl rfl ?_
          refine r_bipush 52 rfl 49 dX3_fits_50 (by decide) ?_
          refine r_icmp_lt 55 65 rfl dX3_fits_52 rfl (fun c52 => ?_) (fun c52 => ?_)
          · refine r_iconst 66 rfl 0 dX3_fits_65 rfl ?_
            refine r_zreturn rfl rfl dX3_fits_66 (Nat.le_of_ble_eq_true rfl) (Nat.le_of_ble_eq_true rfl) ?_
            exact k0 (by unfold pg_fit; rw [if_neg (by omega), if_neg (by omega), if_pos (by omega)]; first | (simp [*]; done) | simp [Int32.not_le.mpr c52] | simp [Int32.not_le.mpr c58] | simp [Int32.not_lt.mp c52, Int32.not_lt.mp c58])
          · refine r_iload_n 56 rfl 1 dX3_fits_55 rfl rfl ?_
            refine r_bipush 58 rfl 51 dX3_fits_56 (by decide) ?_
            refine r_icmp_gt 61 65 rfl dX3_fits_58 rfl (fun c58 => ?_) (fun c58 => ?_)
            · refine r_iconst 66 rfl 0 dX3_fits_65 rfl ?_
              refine r_zreturn rfl rfl dX3_fits_66 (Nat.le_of_ble_eq_true rfl) (Nat.le_of_ble_eq_true rfl) ?_
              exact k0 (by unfold pg_fit; rw [if_neg (by omega), if_neg (by omega), if_pos (by omega)]; first | (simp [*]; done) | simp [Int32.not_le.mpr c52] | simp [Int32.not_le.mpr c58] | simp [Int32.not_lt.mp c52, Int32.not_lt.mp c58])
            · refine r_iconst 62 rfl 1 dX3_fits_61 rfl ?_
              refine r_goto 66 dX3_fits_62 rfl ?_
              refine r_zreturn rfl rfl dX3_fits_66 (Nat.le_of_ble_eq_true rfl) (Nat.le_of_ble_eq_true rfl) ?_
              exact k1 (by unfold pg_fit; rw [if_neg (by omega), if_neg (by omega), if_pos (by omega)]; first | (simp [*]; done) | simp [Int32.not_le.mpr c52] | simp [Int32.not_le.mpr c58] | simp [Int32.not_lt.mp c52, Int32.not_lt.mp c58])
      · replace c28 : p = 9 := (nI_eq (a := p) (b := 9) (by omega) (by omega)).mp c28
        refine r_iload_n 32 rfl 1 dX3_fits_31 rfl rfl ?_
        refine r_bipush 34 rfl 59 dX3_fits_32 (by decide) ?_
        refine r_icmp_ne 37 41 rfl dX3_fits_34 rfl (fun c34 => ?_) (fun c34 => ?_)
        · refine r_iconst 42 rfl 0 dX3_fits_41 rfl ?_
          refine r_zreturn rfl rfl dX3_fits_42 (Nat.le_of_ble_eq_true rfl) (Nat.le_of_ble_eq_true rfl) ?_
          exact k0 (by unfold pg_fit; rw [if_neg (by omega), if_pos (by omega)]; first | (simp [*]; done) | simp [Int32.not_le.mpr c52] | simp [Int32.not_le.mpr c58] | simp [Int32.not_lt.mp c52, Int32.not_lt.mp c58])
        · refine r_iconst 38 rfl 1 dX3_fits_37 rfl ?_
          refine r_goto 42 dX3_fits_38 rfl ?_
          refine r_zreturn rfl rfl dX3_fits_42 (Nat.le_of_ble_eq_true rfl) (Nat.le_of_ble_eq_true rfl) ?_
          exact k1 (by unfold pg_fit; rw [if_neg (by omega), if_pos (by omega)]; first | (simp [*]; done) | simp [Int32.not_le.mpr c52] | simp [Int32.not_le.mpr c58] | simp [Int32.not_lt.mp c52, Int32.not_lt.mp c58])
    · replace c10 : p = 4 := (nI_eq (a := p) (b := 4) (by omega) (by omega)).mp c10
      refine r_iload_n 14 rfl 1 dX3_fits_13 rfl rfl ?_
      refine r_bipush 16 rfl 47 dX3_fits_14 (by decide) ?_
      refine r_icmp_ne 19 23 rfl dX3_fits_16 rfl (fun c16 => ?_) (fun c16 => ?_)
      · refine r_iconst 24 rfl 0 dX3_fits_23 rfl ?_
        refine r_zreturn rfl rfl dX3_fits_24 (Nat.le_of_ble_eq_true rfl) (Nat.le_of_ble_eq_true rfl) ?_
        exact k0 (by unfold pg_fit; rw [if_pos (by omega)]; first | (simp [*]; done) | simp [Int32.not_le.mpr c52] | simp [Int32.not_le.mpr c58] | simp [Int32.not_lt.mp c52, Int32.not_lt.mp c58])
      · refine r_iconst 20 rfl 1 dX3_fits_19 rfl ?_
        refine r_goto 24 dX3_fits_20 rfl ?_
        refine r_zreturn rfl rfl dX3_fits_24 (Nat.le_of_ble_eq_true rfl) (Nat.le_of_ble_eq_true rfl) ?_
        exact k1 (by unfold pg_fit; rw [if_pos (by omega)]; first | (simp [*]; done) | simp [Int32.not_le.mpr c52] | simp [Int32.not_le.mpr c58] | simp [Int32.not_lt.mp c52, Int32.not_lt.mp c58])
  · replace c3 : ¬ p < 11 := fun q__ => c3 ((nI_ltI (a := p) (b := 11) (by omega) (by omega)).mpr q__)
    refine r_iconst 7 rfl 0 dX3_fits_6 rfl ?_
    refine r_zreturn rfl rfl dX3_fits_7 (Nat.le_of_ble_eq_true rfl) (Nat.le_of_ble_eq_true rfl) ?_
    exact k0 (by unfold pg_fit; rw [if_neg (by omega), if_neg (by omega), if_neg (by omega), if_neg (by omega)]; first | (simp [*]; done) | simp [Int32.not_le.mpr c52] | simp [Int32.not_le.mpr c58] | simp [Int32.not_lt.mp c52, Int32.not_lt.mp c58])

set_option maxHeartbeats 4000000 in
set_option maxRecDepth 20000 in
theorem c_X10_isGood {Q : am_P} {h : Nat → am_E} {n : Nat} {p : Nat} {c : Int32} (hp : p < 14) (k1 : pg_fit p c = true → Q (some (.int 1)) h n) (k0 : ¬ pg_fit p c = true → Q (some (.int 0)) h n) : AW mX10_isGood Q 0 (am_ent (am_l mX10_isGood) [.int (nI p), .int c]) [] h n 0 0 := by
  show AW _ _ 0 [some (.int (nI p)), some (.int c)] [] _ _ 0 0
  by_cases hr : 49 ≤ c.toInt ∧ c.toInt ≤ 51
  · obtain ⟨hr1, hr2⟩ := hr
    have hr3 : (49 : Int32) ≤ c := Int32.le_iff_toInt_le.mpr hr1
    have hr4 : c ≤ (51 : Int32) := Int32.le_iff_toInt_le.mpr hr2
    refine r_iload_n 1 rfl 0 dX10_isGood_0 rfl rfl ?_
    refine r_iconst 2 rfl 4 dX10_isGood_1 rfl ?_
    refine r_icmp_ne 5 17 rfl dX10_isGood_2 rfl (fun c2 => ?_) (fun c2 => ?_)
    · replace c2 : ¬ p = 4 := fun q__ => c2 ((nI_eq (a := p) (b := 4) (by omega) (by omega)).mpr q__)
      refine r_iload_n 18 rfl 0 dX10_isGood_17 rfl rfl ?_
      refine r_bipush 20 rfl 9 dX10_isGood_18 (by decide) ?_
      refine r_icmp_ne 23 35 rfl dX10_isGood_20 rfl (fun c20 => ?_) (fun c20 => ?_)
      · replace c20 : ¬ p = 9 := fun q__ => c20 ((nI_eq (a := p) (b := 9) (by omega) (by omega)).mpr q__)
        refine r_iload_n 36 rfl 0 dX10_isGood_35 rfl rfl ?_
        refine r_bipush 38 rfl 10 dX10_isGood_36 (by decide) ?_
        refine r_icmp_ge 41 67 rfl dX10_isGood_38 rfl (fun c38 => ?_) (fun c38 => ?_)
        · replace c38 : 10 ≤ p := (nI_leI (a := 10) (b := p) (by omega) (by omega)).mp c38
          refine r_iload_n 68 rfl 0 dX10_isGood_67 rfl rfl ?_
          refine r_bipush 70 rfl 10 dX10_isGood_68 (by decide) ?_
          refine r_icmp_ne 73 91 rfl dX10_isGood_70 rfl (fun c70 => ?_) (fun c70 => ?_)
          · replace c70 : ¬ p = 10 := fun q__ => c70 ((nI_eq (a := p) (b := 10) (by omega) (by omega)).mpr q__)
            refine r_iconst 92 rfl 0 dX10_isGood_91 rfl ?_
            refine r_zreturn rfl rfl dX10_isGood_92 (Nat.le_of_ble_eq_true rfl) (Nat.le_of_ble_eq_true rfl) ?_
            exact k0 (by unfold pg_fit; first | (rw [if_neg (by omega), if_neg (by omega), if_neg (by omega), if_pos (by omega)]; simp [*]; done) | (rw [if_neg (by omega), if_neg (by omega), if_pos (by omega)]; simp [*]; done) | (rw [if_neg (by omega), if_neg (by omega), if_neg (by omega), if_neg (by omega)]; simp))
          · replace c70 : p = 10 := (nI_eq (a := p) (b := 10) (by omega) (by omega)).mp c70
            refine r_iload_n 74 rfl 1 dX10_isGood_73 rfl rfl ?_
            refine r_i2l 75 rfl dX10_isGood_74 ?_
            refine r_ldc2 78 rfl 49 dX10_isGood_75 (cn_X10_71 rfl) ?_
            refine r_ldc2 81 rfl 51 dX10_isGood_78 (cn_X10_73 rfl) ?_
            refine q_S 84 0 0 rfl [.long c.toInt64, .long 49, .long 51] rfl dX10_isGood_81 cl_X10_isGood__X10_in (lk_X10_64 rfl) st_X10_in (Nat.le_of_ble_eq_true rfl) (fun _ _ => Nat.le_of_ble_eq_true rfl) rfl rfl (Nat.le_of_ble_eq_true rfl) (Nat.le_of_ble_eq_true rfl) ?_
            refine c_in_t (show (49 : Int) ≤ c.toInt64.toInt by rw [Int32.toInt_toInt64]; omega) (show c.toInt64.toInt ≤ (51 : Int) by rw [Int32.toInt_toInt64]; omega) (k_i ?_)
            refine r_if_eq 87 91 rfl dX10_isGood_84 rfl (fun q__ => absurd q__ (by decide)) (fun _ => ?_)
            refine r_iconst 88 rfl 1 dX10_isGood_87 rfl ?_
            refine r_goto 92 dX10_isGood_88 rfl ?_
            refine r_zreturn rfl rfl dX10_isGood_92 (Nat.le_of_ble_eq_true rfl) (Nat.le_of_ble_eq_true rfl) ?_
            exact k1 (by unfold pg_fit; first | (rw [if_neg (by omega), if_neg (by omega), if_neg (by omega), if_pos (by omega)]; simp [*]; done) | (rw [if_neg (by omega), if_neg (by omega), if_pos (by omega)]; simp [*]; done) | (rw [if_neg (by omega), if_neg (by omega), if_neg (by omega), if_neg (by omega)]; simp))
        · replace c38 : ¬ 10 ≤ p := fun q__ => c38 ((nI_leI (a := 10) (b := p) (by omega) (by omega)).mpr q__)
          refine r_iload_n 42 rfl 1 dX10_isGood_41 rfl rfl ?_
          refine r_bipush 44 rfl 46 dX10_isGood_42 (by decide) ?_
          refine r_icmp_eq 47 59 rfl dX10_isGood_44 rfl (fun c44 => ?_) (fun c44 => ?_)
          · refine r_iconst 60 rfl 1 dX10_isGood_59 rfl ?_
            refine r_goto 92 dX10_isGood_60 rfl ?_
            refine r_zreturn rfl rfl dX10_isGood_92 (Nat.le_of_ble_eq_true rfl) (Nat.le_of_ble_eq_true rfl) ?_
            exact k1 (by unfold pg_fit; first | (rw [if_neg (by omega), if_neg (by omega), if_neg (by omega), if_pos (by omega)]; simp [*]; done) | (rw [if_neg (by omega), if_neg (by omega), if_pos (by omega)]; simp [*]; done) | (rw [if_neg (by omega), if_neg (by omega), if_neg (by omega), if_neg (by omega)]; simp))
          · refine r_iload_n 48 rfl 1 dX10_isGood_47 rfl rfl ?_
            refine r_bipush 50 rfl 35 dX10_isGood_48 (by decide) ?_
            refine r_icmp_eq 53 59 rfl dX10_isGood_50 rfl (fun c50 => ?_) (fun c50 => ?_)
            · refine r_iconst 60 rfl 1 dX10_isGood_59 rfl ?_
              refine r_goto 92 dX10_isGood_60 rfl ?_
              refine r_zreturn rfl rfl dX10_isGood_92 (Nat.le_of_ble_eq_true rfl) (Nat.le_of_ble_eq_true rfl) ?_
              exact k1 (by unfold pg_fit; first | (rw [if_neg (by omega), if_neg (by omega), if_neg (by omega), if_pos (by omega)]; simp [*]; done) | (rw [if_neg (by omega), if_neg (by omega), if_pos (by omega)]; simp [*]; done) | (rw [if_neg (by omega), if_neg (by omega), if_neg (by omega), if_neg (by omega)]; simp))
            · refine r_iload_n 54 rfl 1 dX10_isGood_53 rfl rfl ?_
              refine r_bipush 56 rfl 119 dX10_isGood_54 (by decide) ?_
              refine r_icmp_ne 59 63 rfl dX10_isGood_56 rfl (fun c56 => ?_) (fun c56 => ?_)
              · refine r_iconst 64 rfl 0 dX10_isGood_63 rfl ?_
                refine r_goto 92 dX10_isGood_64 rfl ?_
                refine r_zreturn rfl rfl dX10_isGood_92 (Nat.le_of_ble_eq_true rfl) (Nat.le_of_ble_eq_true rfl) ?_
                exact k0 (by unfold pg_fit; first | (rw [if_neg (by omega), if_neg (by omega), if_neg (by omega), if_pos (by omega)]; simp [*]; done) | (rw [if_neg (by omega), if_neg (by omega), if_pos (by omega)]; simp [*]; done) | (rw [if_neg (by omega), if_neg (by omega), if_neg (by omega), if_neg (by omega)]; simp))
              · refine r_iconst 60 rfl 1 dX10_isGood_59 rfl ?_
                refine r_goto 92 dX10_isGood_60 rfl ?_
                refine r_zreturn rfl rfl dX10_isGood_92 (Nat.le_of_ble_eq_true rfl) (Nat.le_of_ble_eq_true rfl) ?_
                exact k1 (by unfold pg_fit; first | (rw [if_neg (by omega), if_neg (by omega), if_neg (by omega), if_pos (by omega)]; simp [*]; done) | (rw [if_neg (by omega), if_neg (by omega), if_pos (by omega)]; simp [*]; done) | (rw [if_neg (by omega), if_neg (by omega), if_neg (by omega), if_neg (by omega)]; simp))
      · replace c20 : p = 9 := (nI_eq (a := p) (b := 9) (by omega) (by omega)).mp c20
        refine r_iload_n 24 rfl 1 dX10_isGood_23 rfl rfl ?_
        refine r_bipush 26 rfl 59 dX10_isGood_24 (by decide) ?_
        refine r_icmp_ne 29 33 rfl dX10_isGood_26 rfl (fun c26 => ?_) (fun c26 => ?_)
        · refine r_iconst 34 rfl 0 dX10_isGood_33 rfl ?_
          refine r_zreturn rfl rfl dX10_isGood_34 (Nat.le_of_ble_eq_true rfl) (Nat.le_of_ble_eq_true rfl) ?_
          exact k0 (by unfold pg_fit; rw [if_neg (by omega), if_pos (by omega)]; first | (simp [*]; done) | simp [Int32.not_le.mpr c52] | simp [Int32.not_le.mpr c58] | simp [Int32.not_lt.mp c52, Int32.not_lt.mp c58])
        · refine r_iconst 30 rfl 1 dX10_isGood_29 rfl ?_
          refine r_goto 34 dX10_isGood_30 rfl ?_
          refine r_zreturn rfl rfl dX10_isGood_34 (Nat.le_of_ble_eq_true rfl) (Nat.le_of_ble_eq_true rfl) ?_
          exact k1 (by unfold pg_fit; rw [if_neg (by omega), if_pos (by omega)]; first | (simp [*]; done) | simp [Int32.not_le.mpr c52] | simp [Int32.not_le.mpr c58] | simp [Int32.not_lt.mp c52, Int32.not_lt.mp c58])
    · replace c2 : p = 4 := (nI_eq (a := p) (b := 4) (by omega) (by omega)).mp c2
      refine r_iload_n 6 rfl 1 dX10_isGood_5 rfl rfl ?_
      refine r_bipush 8 rfl 47 dX10_isGood_6 (by decide) ?_
      refine r_icmp_ne 11 15 rfl dX10_isGood_8 rfl (fun c8 => ?_) (fun c8 => ?_)
      · refine r_iconst 16 rfl 0 dX10_isGood_15 rfl ?_
        refine r_zreturn rfl rfl dX10_isGood_16 (Nat.le_of_ble_eq_true rfl) (Nat.le_of_ble_eq_true rfl) ?_
        exact k0 (by unfold pg_fit; rw [if_pos (by omega)]; first | (simp [*]; done) | simp [Int32.not_le.mpr c52] | simp [Int32.not_le.mpr c58] | simp [Int32.not_lt.mp c52, Int32.not_lt.mp c58])
      · refine r_iconst 12 rfl 1 dX10_isGood_11 rfl ?_
        refine r_goto 16 dX10_isGood_12 rfl ?_
        refine r_zreturn rfl rfl dX10_isGood_16 (Nat.le_of_ble_eq_true rfl) (Nat.le_of_ble_eq_true rfl) ?_
        exact k1 (by unfold pg_fit; rw [if_pos (by omega)]; first | (simp [*]; done) | simp [Int32.not_le.mpr c52] | simp [Int32.not_le.mpr c58] | simp [Int32.not_lt.mp c52, Int32.not_lt.mp c58])
  · have hr3 : ¬ (decide ((49 : Int32) ≤ c) && decide (c ≤ (51 : Int32))) = true := by
      intro q
      simp only [Bool.and_eq_true, decide_eq_true_eq] at q
      exact hr ⟨Int32.le_iff_toInt_le.mp q.1, Int32.le_iff_toInt_le.mp q.2⟩
    have hr5 : c.toInt < 49 ∨ 51 < c.toInt := by omega
    refine r_iload_n 1 rfl 0 dX10_isGood_0 rfl rfl ?_
    refine r_iconst 2 rfl 4 dX10_isGood_1 rfl ?_
    refine r_icmp_ne 5 17 rfl dX10_isGood_2 rfl (fun c2 => ?_) (fun c2 => ?_)
    · replace c2 : ¬ p = 4 := fun q__ => c2 ((nI_eq (a := p) (b := 4) (by omega) (by omega)).mpr q__)
      refine r_iload_n 18 rfl 0 dX10_isGood_17 rfl rfl ?_
      refine r_bipush 20 rfl 9 dX10_isGood_18 (by decide) ?_
      refine r_icmp_ne 23 35 rfl dX10_isGood_20 rfl (fun c20 => ?_) (fun c20 => ?_)
      · replace c20 : ¬ p = 9 := fun q__ => c20 ((nI_eq (a := p) (b := 9) (by omega) (by omega)).mpr q__)
        refine r_iload_n 36 rfl 0 dX10_isGood_35 rfl rfl ?_
        refine r_bipush 38 rfl 10 dX10_isGood_36 (by decide) ?_
        refine r_icmp_ge 41 67 rfl dX10_isGood_38 rfl (fun c38 => ?_) (fun c38 => ?_)
        · replace c38 : 10 ≤ p := (nI_leI (a := 10) (b := p) (by omega) (by omega)).mp c38
          refine r_iload_n 68 rfl 0 dX10_isGood_67 rfl rfl ?_
          refine r_bipush 70 rfl 10 dX10_isGood_68 (by decide) ?_
          refine r_icmp_ne 73 91 rfl dX10_isGood_70 rfl (fun c70 => ?_) (fun c70 => ?_)
          · replace c70 : ¬ p = 10 := fun q__ => c70 ((nI_eq (a := p) (b := 10) (by omega) (by omega)).mpr q__)
            refine r_iconst 92 rfl 0 dX10_isGood_91 rfl ?_
            refine r_zreturn rfl rfl dX10_isGood_92 (Nat.le_of_ble_eq_true rfl) (Nat.le_of_ble_eq_true rfl) ?_
            exact k0 (by unfold pg_fit; first | (rw [if_neg (by omega), if_neg (by omega), if_neg (by omega), if_pos (by omega)]; simp [*]; done) | (rw [if_neg (by omega), if_neg (by omega), if_pos (by omega)]; simp [*]; done) | (rw [if_neg (by omega), if_neg (by omega), if_neg (by omega), if_neg (by omega)]; simp))
          · replace c70 : p = 10 := (nI_eq (a := p) (b := 10) (by omega) (by omega)).mp c70
            refine r_iload_n 74 rfl 1 dX10_isGood_73 rfl rfl ?_
            refine r_i2l 75 rfl dX10_isGood_74 ?_
            refine r_ldc2 78 rfl 49 dX10_isGood_75 (cn_X10_71 rfl) ?_
            refine r_ldc2 81 rfl 51 dX10_isGood_78 (cn_X10_73 rfl) ?_
            refine q_S 84 0 0 rfl [.long c.toInt64, .long 49, .long 51] rfl dX10_isGood_81 cl_X10_isGood__X10_in (lk_X10_64 rfl) st_X10_in (Nat.le_of_ble_eq_true rfl) (fun _ _ => Nat.le_of_ble_eq_true rfl) rfl rfl (Nat.le_of_ble_eq_true rfl) (Nat.le_of_ble_eq_true rfl) ?_
            refine c_in_f (show c.toInt64.toInt < (49 : Int) ∨ (51 : Int) < c.toInt64.toInt by rw [Int32.toInt_toInt64]; omega) (k_i ?_)
            refine r_if_eq 87 91 rfl dX10_isGood_84 rfl (fun _ => ?_) (fun q__ => absurd (by decide) q__)
            refine r_iconst 92 rfl 0 dX10_isGood_91 rfl ?_
            refine r_zreturn rfl rfl dX10_isGood_92 (Nat.le_of_ble_eq_true rfl) (Nat.le_of_ble_eq_true rfl) ?_
            exact k0 (by unfold pg_fit; first | (rw [if_neg (by omega), if_neg (by omega), if_neg (by omega), if_pos (by omega)]; simp [*]; done) | (rw [if_neg (by omega), if_neg (by omega), if_pos (by omega)]; simp [*]; done) | (rw [if_neg (by omega), if_neg (by omega), if_neg (by omega), if_neg (by omega)]; simp))
        · replace c38 : ¬ 10 ≤ p := fun q__ => c38 ((nI_leI (a := 10) (b := p) (by omega) (by omega)).mpr q__)
          refine r_iload_n 42 rfl 1 dX10_isGood_41 rfl rfl ?_
          refine r_bipush 44 rfl 46 dX10_isGood_42 (by decide) ?_
          refine r_icmp_eq 47 59 rfl dX10_isGood_44 rfl (fun c44 => ?_) (fun c44 => ?_)
          · refine r_iconst 60 rfl 1 dX10_isGood_59 rfl ?_
            refine r_goto 92 dX10_isGood_60 rfl ?_
            refine r_zreturn rfl rfl dX10_isGood_92 (Nat.le_of_ble_eq_true rfl) (Nat.le_of_ble_eq_true rfl) ?_
            exact k1 (by unfold pg_fit; first | (rw [if_neg (by omega), if_neg (by omega), if_neg (by omega), if_pos (by omega)]; simp [*]; done) | (rw [if_neg (by omega), if_neg (by omega), if_pos (by omega)]; simp [*]; done) | (rw [if_neg (by omega), if_neg (by omega), if_neg (by omega), if_neg (by omega)]; simp))
          · refine r_iload_n 48 rfl 1 dX10_isGood_47 rfl rfl ?_
            refine r_bipush 50 rfl 35 dX10_isGood_48 (by decide) ?_
            refine r_icmp_eq 53 59 rfl dX10_isGood_50 rfl (fun c50 => ?_) (fun c50 => ?_)
            · refine r_iconst 60 rfl 1 dX10_isGood_59 rfl ?_
              refine r_goto 92 dX10_isGood_60 rfl ?_
              refine r_zreturn rfl rfl dX10_isGood_92 (Nat.le_of_ble_eq_true rfl) (Nat.le_of_ble_eq_true rfl) ?_
              exact k1 (by unfold pg_fit; first | (rw [if_neg (by omega), if_neg (by omega), if_neg (by omega), if_pos (by omega)]; simp [*]; done) | (rw [if_neg (by omega), if_neg (by omega), if_pos (by omega)]; simp [*]; done) | (rw [if_neg (by omega), if_neg (by omega), if_neg (by omega), if_neg (by omega)]; simp))
            · refine r_iload_n 54 rfl 1 dX10_isGood_53 rfl rfl ?_
              refine r_bipush 56 rfl 119 dX10_isGood_54 (by decide) ?_
              refine r_icmp_ne 59 63 rfl dX10_isGood_56 rfl (fun c56 => ?_) (fun c56 => ?_)
              · refine r_iconst 64 rfl 0 dX10_isGood_63 rfl ?_
                refine r_goto 92 dX10_isGood_64 rfl ?_
                refine r_zreturn rfl rfl dX10_isGood_92 (Nat.le_of_ble_eq_true rfl) (Nat.le_of_ble_eq_true rfl) ?_
                exact k0 (by unfold pg_fit; first | (rw [if_neg (by omega), if_neg (by omega), if_neg (by omega), if_pos (by omega)]; simp [*]; done) | (rw [if_neg (by omega), if_neg (by omega), if_pos (by omega)]; simp [*]; done) | (rw [if_neg (by omega), if_neg (by omega), if_neg (by omega), if_neg (by omega)]; simp))
              · refine r_iconst 60 rfl 1 dX10_isGood_59 rfl ?_
                refine r_goto 92 dX10_isGood_60 rfl ?_
                refine r_zreturn rfl rfl dX10_isGood_92 (Nat.le_of_ble_eq_true rfl) (Nat.le_of_ble_eq_true rfl) ?_
                exact k1 (by unfold pg_fit; first | (rw [if_neg (by omega), if_neg (by omega), if_neg (by omega), if_pos (by omega)]; simp [*]; done) | (rw [if_neg (by omega), if_neg (by omega), if_pos (by omega)]; simp [*]; done) | (rw [if_neg (by omega), if_neg (by omega), if_neg (by omega), if_neg (by omega)]; simp))
      · replace c20 : p = 9 := (nI_eq (a := p) (b := 9) (by omega) (by omega)).mp c20
        refine r_iload_n 24 rfl 1 dX10_isGood_23 rfl rfl ?_
        refine r_bipush 26 rfl 59 dX10_isGood_24 (by decide) ?_
        refine r_icmp_ne 29 33 rfl dX10_isGood_26 rfl (fun c26 => ?_) (fun c26 => ?_)
        · refine r_iconst 34 rfl 0 dX10_isGood_33 rfl ?_
          refine r_zreturn rfl rfl dX10_isGood_34 (Nat.le_of_ble_eq_true rfl) (Nat.le_of_ble_eq_true rfl) ?_
          exact k0 (by unfold pg_fit; rw [if_neg (by omega), if_pos (by omega)]; first | (simp [*]; done) | simp [Int32.not_le.mpr c52] | simp [Int32.not_le.mpr c58] | simp [Int32.not_lt.mp c52, Int32.not_lt.mp c58])
        · refine r_iconst 30 rfl 1 dX10_isGood_29 rfl ?_
          refine r_goto 34 dX10_isGood_30 rfl ?_
          refine r_zreturn rfl rfl dX10_isGood_34 (Nat.le_of_ble_eq_true rfl) (Nat.le_of_ble_eq_true rfl) ?_
          exact k1 (by unfold pg_fit; rw [if_neg (by omega), if_pos (by omega)]; first | (simp [*]; done) | simp [Int32.not_le.mpr c52] | simp [Int32.not_le.mpr c58] | simp [Int32.not_lt.mp c52, Int32.not_lt.mp c58])
    · replace c2 : p = 4 := (nI_eq (a := p) (b := 4) (by omega) (by omega)).mp c2
      refine r_iload_n 6 rfl 1 dX10_isGood_5 rfl rfl ?_
      refine r_bipush 8 rfl 47 dX10_isGood_6 (by decide) ?_
      refine r_icmp_ne 11 15 rfl dX10_isGood_8 rfl (fun c8 => ?_) (fun c8 => ?_)
      · refine r_iconst 16 rfl 0 dX10_isGood_15 rfl ?_
        refine r_zreturn rfl rfl dX10_isGood_16 (Nat.le_of_ble_eq_true rfl) (Nat.le_of_ble_eq_true rfl) ?_
        exact k0 (by unfold pg_fit; rw [if_pos (by omega)]; first | (simp [*]; done) | simp [Int32.not_le.mpr c52] | simp [Int32.not_le.mpr c58] | simp [Int32.not_lt.mp c52, Int32.not_lt.mp c58])
      · refine r_iconst 12 rfl 1 dX10_isGood_11 rfl ?_
        refine r_goto 16 dX10_isGood_12 rfl ?_
        refine r_zreturn rfl rfl dX10_isGood_16 (Nat.le_of_ble_eq_true rfl) (Nat.le_of_ble_eq_true rfl) ?_
        exact k1 (by unfold pg_fit; rw [if_pos (by omega)]; first | (simp [*]; done) | simp [Int32.not_le.mpr c52] | simp [Int32.not_le.mpr c58] | simp [Int32.not_lt.mp c52, Int32.not_lt.mp c58])

set_option maxHeartbeats 4000000 in
set_option maxRecDepth 20000 in
theorem lp_firstWrong {Q : am_P} {z : am_Z} {m : Nat → Nat → Int32} {n pm : Nat} (hpm : m 2 1 = nI pm) (hpl : pm ≤ 14) : ∀ (d i : Nat), i + d = pm → Q (some (.int (nI (pg_fw (m 3) d i)))) (wd z m) n → AW mX3_firstWrong Q 2 [some (.ref 2), some (.int (nI i))] [] (wd z m) n 0 0 := by
  intro d
  induction d with
  | zero =>
    intro i hi k
    have hi : i = pm := by omega
    subst hi
    refine r_iload_n 3 rfl 1 dX3_firstWrong_2 rfl rfl ?_
    refine r_aload_n 4 rfl 0 dX3_firstWrong_3 rfl rfl ?_
    refine r_getf (v := .int ((m 2) 1)) (k := 1) 7 rfl dX3_firstWrong_4 (gf_X3_15_3 rfl) rfl rfl ?_
    rw [show (m 2) 1 = nI i from hpm]
    refine r_icmp_ge 10 31 rfl dX3_firstWrong_7 rfl (fun _ => ?_) (fun q__ => absurd ((nI_leI (a := i) (b := i) (by omega) (by omega)).mpr (by omega)) q__)
    refine r_aload_n 32 rfl 0 dX3_firstWrong_31 rfl rfl ?_
    refine r_getf (v := .int ((m 2) 1)) (k := 1) 35 rfl dX3_firstWrong_32 (gf_X3_15_3 rfl) rfl rfl ?_
    rw [show (m 2) 1 = nI i from hpm]
    refine r_ireturn rfl dX3_firstWrong_35 (Nat.le_of_ble_eq_true rfl) (Nat.le_of_ble_eq_true rfl) ?_
    exact k
  | succ d ih =>
    intro i hi k
    unfold pg_fw at k
    refine r_iload_n 3 rfl 1 dX3_firstWrong_2 rfl rfl ?_
    refine r_aload_n 4 rfl 0 dX3_firstWrong_3 rfl rfl ?_
    refine r_getf (v := .int ((m 2) 1)) (k := 1) 7 rfl dX3_firstWrong_4 (gf_X3_15_3 rfl) rfl rfl ?_
    rw [show (m 2) 1 = nI pm from hpm]
    refine r_icmp_ge 10 31 rfl dX3_firstWrong_7 rfl (fun q__ => absurd q__ (fun q__ => absurd ((nI_leI (a := pm) (b := i) (by omega) (by omega)).mp q__) (by omega))) (fun _ => ?_)
    refine r_iload_n 11 rfl 1 dX3_firstWrong_10 rfl rfl ?_
    refine r_aload_n 12 rfl 0 dX3_firstWrong_11 rfl rfl ?_
    refine r_getf (v := .ref 3) (k := 0) 15 rfl dX3_firstWrong_12 (gf_X3_11_3 rfl) rfl rfl ?_
    refine r_iload_n 16 rfl 1 dX3_firstWrong_15 rfl rfl ?_
    refine r_iald (f := m 3) 17 rfl i dX3_firstWrong_16 rfl rfl (by omega) (by decide) ?_
    refine q_S 20 0 0 rfl [.int (nI i), .int ((m 3) i)] rfl dX3_firstWrong_17 cl_X3_firstWrong__X3_fits (lk_X3_23 rfl) st_X3_fits (Nat.le_of_ble_eq_true rfl) (fun _ _ => Nat.le_of_ble_eq_true rfl) rfl rfl (Nat.le_of_ble_eq_true rfl) (Nat.le_of_ble_eq_true rfl) ?_
    refine c_X3_fits (by omega) (fun hf => (k_i ?_)) (fun hf => (k_i ?_))
    · rw [if_pos hf] at k
      refine r_if_ne 23 25 rfl dX3_firstWrong_20 rfl (fun _ => ?_) (fun q__ => absurd q__ (by decide))
      refine r_iinc 28 rfl (nI (i + 1)) [some (.ref 2), some (.int (nI (i + 1)))] dX3_firstWrong_25 rfl (nI_1 _) (by decide) rfl ?_
      refine r_goto 2 dX3_firstWrong_28 rfl ?_
      exact ih (i + 1) (by omega) k
    · rw [if_neg hf] at k
      refine r_if_ne 23 25 rfl dX3_firstWrong_20 rfl (fun q__ => absurd (by decide) q__) (fun _ => ?_)
      refine r_iload_n 24 rfl 1 dX3_firstWrong_23 rfl rfl ?_
      refine r_ireturn rfl dX3_firstWrong_24 (Nat.le_of_ble_eq_true rfl) (Nat.le_of_ble_eq_true rfl) ?_
      exact k

set_option maxHeartbeats 4000000 in
set_option maxRecDepth 20000 in
theorem lp_faultOf {Q : am_P} {z : am_Z} {m : Nat → Nat → Int32} {n pm : Nat} (hpm : m 37 1 = nI pm) (hpl : pm ≤ 14) : ∀ (d i : Nat), i + d = pm → Q (some (.int (nI (pg_fw (m 38) d i)))) (wd z m) n → AW mX10_faultOf Q 2 [some (.ref 37), some (.int (nI i))] [] (wd z m) n 0 0 := by
  intro d
  induction d with
  | zero =>
    intro i hi k
    have hi : i = pm := by omega
    subst hi
    refine r_iload_n 3 rfl 1 dX10_faultOf_2 rfl rfl ?_
    refine r_aload_n 4 rfl 0 dX10_faultOf_3 rfl rfl ?_
    refine r_getf (v := .int ((m 37) 1)) (k := 1) 7 rfl dX10_faultOf_4 (gf_X10_68_10 rfl) rfl rfl ?_
    rw [show (m 37) 1 = nI i from hpm]
    refine r_icmp_ge 10 29 rfl dX10_faultOf_7 rfl (fun _ => ?_) (fun q__ => absurd ((nI_leI (a := i) (b := i) (by omega) (by omega)).mpr (by omega)) q__)
    refine r_iload_n 30 rfl 1 dX10_faultOf_29 rfl rfl ?_
    refine r_ireturn rfl dX10_faultOf_30 (Nat.le_of_ble_eq_true rfl) (Nat.le_of_ble_eq_true rfl) ?_
    exact k
  | succ d ih =>
    intro i hi k
    unfold pg_fw at k
    refine r_iload_n 3 rfl 1 dX10_faultOf_2 rfl rfl ?_
    refine r_aload_n 4 rfl 0 dX10_faultOf_3 rfl rfl ?_
    refine r_getf (v := .int ((m 37) 1)) (k := 1) 7 rfl dX10_faultOf_4 (gf_X10_68_10 rfl) rfl rfl ?_
    rw [show (m 37) 1 = nI pm from hpm]
    refine r_icmp_ge 10 29 rfl dX10_faultOf_7 rfl (fun q__ => absurd q__ (fun q__ => absurd ((nI_leI (a := pm) (b := i) (by omega) (by omega)).mp q__) (by omega))) (fun _ => ?_)
    refine r_iload_n 11 rfl 1 dX10_faultOf_10 rfl rfl ?_
    refine r_aload_n 12 rfl 0 dX10_faultOf_11 rfl rfl ?_
    refine r_getf (v := .ref 38) (k := 0) 15 rfl dX10_faultOf_12 (gf_X10_7_10 rfl) rfl rfl ?_
    refine r_iload_n 16 rfl 1 dX10_faultOf_15 rfl rfl ?_
    refine r_iald (f := m 38) 17 rfl i dX10_faultOf_16 rfl rfl (by omega) (by decide) ?_
    refine q_S 20 0 0 rfl [.int (nI i), .int ((m 38) i)] rfl dX10_faultOf_17 cl_X10_faultOf__X10_isGood (lk_X10_75 rfl) st_X10_isGood (Nat.le_of_ble_eq_true rfl) (fun _ _ => Nat.le_of_ble_eq_true rfl) rfl rfl (Nat.le_of_ble_eq_true rfl) (Nat.le_of_ble_eq_true rfl) ?_
    refine c_X10_isGood (by omega) (fun hf => (k_i ?_)) (fun hf => (k_i ?_))
    · rw [if_pos hf] at k
      refine r_if_eq 23 29 rfl dX10_faultOf_20 rfl (fun q__ => absurd q__ (by decide)) (fun _ => ?_)
      refine r_iinc 26 rfl (nI (i + 1)) [some (.ref 37), some (.int (nI (i + 1)))] dX10_faultOf_23 rfl (nI_1 _) (by decide) rfl ?_
      refine r_goto 2 dX10_faultOf_26 rfl ?_
      exact ih (i + 1) (by omega) k
    · rw [if_neg hf] at k
      refine r_if_eq 23 29 rfl dX10_faultOf_20 rfl (fun _ => ?_) (fun q__ => absurd (by decide) q__)
      refine r_iload_n 30 rfl 1 dX10_faultOf_29 rfl rfl ?_
      refine r_ireturn rfl dX10_faultOf_30 (Nat.le_of_ble_eq_true rfl) (Nat.le_of_ble_eq_true rfl) ?_
      exact k

set_option maxHeartbeats 4000000 in
set_option maxRecDepth 20000 in
theorem c_X3_firstWrong {Q : am_P} {z : am_Z} {m : Nat → Nat → Int32} {n : Nat} {pm : Nat} (hpm : m 2 1 = nI pm) (hpl : pm ≤ 14) (k : Q (some (.int (nI (pg_fw (m 3) pm 0)))) (wd z m) n) : AW mX3_firstWrong Q 0 (am_ent (am_l mX3_firstWrong) [.ref 2]) [] (wd z m) n 0 0 := by
  show AW _ _ 0 [some (.ref 2), none] [] _ _ 0 0
  refine r_iconst 1 rfl 0 dX3_firstWrong_0 rfl ?_
  refine r_istore_n 2 rfl 1 [some (.ref 2), some (.int 0)] dX3_firstWrong_1 rfl (by decide) rfl ?_
  exact lp_firstWrong hpm hpl pm 0 (by omega) k

set_option maxHeartbeats 4000000 in
set_option maxRecDepth 20000 in
theorem c_X10_faultOf {Q : am_P} {z : am_Z} {m : Nat → Nat → Int32} {n : Nat} {pm : Nat} (hpm : m 37 1 = nI pm) (hpl : pm ≤ 14) (k : Q (some (.int (nI (pg_fw (m 38) pm 0)))) (wd z m) n) : AW mX10_faultOf Q 0 (am_ent (am_l mX10_faultOf) [.ref 37]) [] (wd z m) n 0 0 := by
  show AW _ _ 0 [some (.ref 37), none] [] _ _ 0 0
  refine r_iconst 1 rfl 0 dX10_faultOf_0 rfl ?_
  refine r_istore_n 2 rfl 1 [some (.ref 37), some (.int 0)] dX10_faultOf_1 rfl (by decide) rfl ?_
  exact lp_faultOf hpm hpl pm 0 (by omega) k

set_option maxHeartbeats 4000000 in
set_option maxRecDepth 20000 in
theorem c_X9_fault {Q : am_P} {z : am_Z} {m : Nat → Nat → Int32} {n : Nat} {pm : Nat} (hpm : m 2 1 = nI pm) (hpl : pm ≤ 14) (k : Q (some (.int (nI (pg_fw (m 3) pm 0)))) (wd z m) n) : AW mX9_fault Q 0 (am_ent (am_l mX9_fault) [.ref 1]) [] (wd z m) n 0 0 := by
  show AW _ _ 0 [some (.ref 1)] [] _ _ 0 0
  refine r_aload_n 1 rfl 0 dX9_fault_0 rfl rfl ?_
  refine r_getf (v := .ref 2) (k := 0) 4 rfl dX9_fault_1 (gf_X9_12_9 rfl) rfl rfl ?_
  refine q_V 7 0 0 rfl [] rfl dX9_fault_4 cl_X9_fault__X3_firstWrong (lk_X9_74 rfl) im_X3_firstWrong (ci := 3) rfl sl_X3__X3_firstWrong rfl (Nat.le_of_ble_eq_true rfl) (fun _ _ => Nat.le_of_ble_eq_true rfl) rfl rfl (Nat.le_of_ble_eq_true rfl) (Nat.le_of_ble_eq_true rfl) ?_
  refine c_X3_firstWrong hpm hpl (k_i ?_)
  refine r_ireturn rfl dX9_fault_7 (Nat.le_of_ble_eq_true rfl) (Nat.le_of_ble_eq_true rfl) ?_
  exact k

set_option maxHeartbeats 4000000 in
set_option maxRecDepth 20000 in
theorem c_X10_fault {Q : am_P} {z : am_Z} {m : Nat → Nat → Int32} {n : Nat} {pm : Nat} (hpm : m 37 1 = nI pm) (hpl : pm ≤ 14) (k : Q (some (.int (nI (pg_fw (m 38) pm 0)))) (wd z m) n) : AW mX10_fault Q 0 (am_ent (am_l mX10_fault) [.ref 37]) [] (wd z m) n 0 0 := by
  show AW _ _ 0 [some (.ref 37)] [] _ _ 0 0
  refine r_aload_n 1 rfl 0 dX10_fault_0 rfl rfl ?_
  refine q_V 4 0 0 rfl [] rfl dX10_fault_1 cl_X10_fault__X10_faultOf (lk_X10_79 rfl) im_X10_faultOf (ci := 10) rfl sl_X10__X10_faultOf rfl (Nat.le_of_ble_eq_true rfl) (fun _ _ => Nat.le_of_ble_eq_true rfl) rfl rfl (Nat.le_of_ble_eq_true rfl) (Nat.le_of_ble_eq_true rfl) ?_
  refine c_X10_faultOf hpm hpl (k_i ?_)
  refine r_ireturn rfl dX10_fault_4 (Nat.le_of_ble_eq_true rfl) (Nat.le_of_ble_eq_true rfl) ?_
  exact k
