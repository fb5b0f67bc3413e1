set_option maxHeartbeats 4000000 in
set_option maxRecDepth 20000 in
theorem c_isFull_f {Q : am_P} {z : am_Z} {m : Nat → Nat → Int32} {n : Nat} {pm : Nat} (hpm : m 2 1 = nI pm) (hpl : pm ≤ 14) (hf : pm < 14) (k : Q (some (.int 0)) (wd z m) n) : AW mX3_isFull Q 0 (am_ent (am_l mX3_isFull) [.ref 2]) [] (wd z m) n 0 0 := by
  show AW _ _ 0 [some (.ref 2)] [] _ _ 0 0
  refine r_aload_n 1 rfl 0 dX3_isFull_0 rfl rfl ?_
  refine r_getf (v := .int ((m 2) 1)) (k := 1) 4 rfl dX3_isFull_1 (gf_X3_15_3 rfl) rfl rfl ?_
  rw [show (m 2) 1 = nI pm from hpm]
  refine r_bipush 6 rfl 14 dX3_isFull_4 (by decide) ?_
  refine r_icmp_lt 9 13 rfl dX3_isFull_6 rfl (fun _ => ?_) (fun q__ => absurd ((nI_ltI (a := pm) (b := 14) (by omega) (by omega)).mpr (by omega)) q__)
  refine r_iconst 14 rfl 0 dX3_isFull_13 rfl ?_
  refine r_zreturn rfl rfl dX3_isFull_14 (Nat.le_of_ble_eq_true rfl) (Nat.le_of_ble_eq_true rfl) ?_
  exact k

set_option maxHeartbeats 4000000 in
set_option maxRecDepth 20000 in
theorem c_isFull_t {Q : am_P} {z : am_Z} {m : Nat → Nat → Int32} {n : Nat} {pm : Nat} (hpm : m 2 1 = nI pm) (hpl : pm ≤ 14) (hf : pm = 14) (k : Q (some (.int 1)) (wd z m) n) : AW mX3_isFull Q 0 (am_ent (am_l mX3_isFull) [.ref 2]) [] (wd z m) n 0 0 := by
  show AW _ _ 0 [some (.ref 2)] [] _ _ 0 0
  refine r_aload_n 1 rfl 0 dX3_isFull_0 rfl rfl ?_
  refine r_getf (v := .int ((m 2) 1)) (k := 1) 4 rfl dX3_isFull_1 (gf_X3_15_3 rfl) rfl rfl ?_
  rw [show (m 2) 1 = nI pm from hpm]
  refine r_bipush 6 rfl 14 dX3_isFull_4 (by decide) ?_
  refine r_icmp_lt 9 13 rfl dX3_isFull_6 rfl (fun q__ => absurd q__ (fun q__ => absurd ((nI_ltI (a := pm) (b := 14) (by omega) (by omega)).mp q__) (by omega))) (fun _ => ?_)
  refine r_iconst 10 rfl 1 dX3_isFull_9 rfl ?_
  refine r_goto 14 dX3_isFull_10 rfl ?_
  refine r_zreturn rfl rfl dX3_isFull_14 (Nat.le_of_ble_eq_true rfl) (Nat.le_of_ble_eq_true rfl) ?_
  exact k

set_option maxHeartbeats 4000000 in
set_option maxRecDepth 20000 in
theorem c_X9_blank {Q : am_P} {z : am_Z} {m : Nat → Nat → Int32} {n : Nat}  (k : Q (some (.int (m 2 1))) (wd z (va_up m 2 (upd (m 2) 1 0))) n) : AW mX9_blank Q 0 (am_ent (am_l mX9_blank) [.ref 1]) [] (wd z m) n 0 0 := by
  show AW _ _ 0 [some (.ref 1), none] [] _ _ 0 0
  refine r_aload_n 1 rfl 0 dX9_blank_0 rfl rfl ?_
  refine r_getf (v := .ref 2) (k := 0) 4 rfl dX9_blank_1 (gf_X9_12_9 rfl) rfl rfl ?_
  refine r_getf (v := .int ((m 2) 1)) (k := 1) 7 rfl dX9_blank_4 (gf_X9_70_3 rfl) rfl rfl ?_
  refine r_istore_n 8 rfl 1 [some (.ref 1), some (.int ((m 2) 1))] dX9_blank_7 rfl (by decide) rfl ?_
  refine r_aload_n 9 rfl 0 dX9_blank_8 rfl rfl ?_
  refine r_getf (v := .ref 2) (k := 0) 12 rfl dX9_blank_9 (gf_X9_12_9 rfl) rfl rfl ?_
  refine r_iconst 13 rfl 0 dX9_blank_12 rfl ?_
  refine w_putf 16 rfl (k := 1) (va_up m 2 (upd (m 2) 1 0)) dX9_blank_13 (pf_X9_70_3 rfl) (by decide) (by decide) rfl (Nat.le_of_ble_eq_true rfl) rfl ⟨rfl, rfl⟩ rfl ?_
  refine r_iload_n 17 rfl 1 dX9_blank_16 rfl rfl ?_
  refine r_ireturn rfl dX9_blank_17 (Nat.le_of_ble_eq_true rfl) (Nat.le_of_ble_eq_true rfl) ?_
  exact k

set_option maxHeartbeats 4000000 in
set_option maxRecDepth 20000 in
theorem c_isParish_f {Q : am_P} {z : am_Z} {m : Nat → Nat → Int32} {n : Nat} {p : Int32} (hp : p.toInt < 0 ∨ 3 ≤ p.toInt) (k : Q (some (.int 0)) (wd z m) n) : AW mX9_isParish Q 0 (am_ent (am_l mX9_isParish) [.int p]) [] (wd z m) n 0 0 := by
  show AW _ _ 0 [some (.int p)] [] _ _ 0 0
  refine r_iload_n 1 rfl 0 dX9_isParish_0 rfl rfl ?_
  refine r_if_lt 4 13 rfl dX9_isParish_1 rfl (fun c1 => ?_) (fun c1 => ?_)
  · replace c1 : p.toInt < (0 : Int) := Int32.lt_iff_toInt_lt.mp c1
    refine r_iconst 14 rfl 0 dX9_isParish_13 rfl ?_
    refine r_zreturn rfl rfl dX9_isParish_14 (Nat.le_of_ble_eq_true rfl) (Nat.le_of_ble_eq_true rfl) ?_
    exact k
  · replace c1 : ¬ p.toInt < (0 : Int) := fun q__ => c1 (Int32.lt_iff_toInt_lt.mpr q__)
    refine r_iload_n 5 rfl 0 dX9_isParish_4 rfl rfl ?_
    refine r_iconst 6 rfl 3 dX9_isParish_5 rfl ?_
    refine r_icmp_ge 9 13 rfl dX9_isParish_6 rfl (fun c6 => ?_) (fun c6 => ?_)
    · replace c6 : (3 : Int) ≤ p.toInt := Int32.le_iff_toInt_le.mp c6
      refine r_iconst 14 rfl 0 dX9_isParish_13 rfl ?_
      refine r_zreturn rfl rfl dX9_isParish_14 (Nat.le_of_ble_eq_true rfl) (Nat.le_of_ble_eq_true rfl) ?_
      exact k
    · replace c6 : ¬ (3 : Int) ≤ p.toInt := fun q__ => c6 (Int32.le_iff_toInt_le.mpr q__)
      exfalso; omega

set_option maxHeartbeats 4000000 in
set_option maxRecDepth 20000 in
theorem c_isParish_t {Q : am_P} {z : am_Z} {m : Nat → Nat → Int32} {n : Nat} {p : Nat} (hp : p < 3) (k : Q (some (.int 1)) (wd z m) n) : AW mX9_isParish Q 0 (am_ent (am_l mX9_isParish) [.int (nI p)]) [] (wd z m) n 0 0 := by
  show AW _ _ 0 [some (.int (nI p))] [] _ _ 0 0
  refine r_iload_n 1 rfl 0 dX9_isParish_0 rfl rfl ?_
  refine r_if_lt 4 13 rfl dX9_isParish_1 rfl (fun q__ => absurd q__ (fun q__ => absurd ((nI_ltI (a := p) (b := 0) (by omega) (by omega)).mp q__) (by omega))) (fun _ => ?_)
  refine r_iload_n 5 rfl 0 dX9_isParish_4 rfl rfl ?_
  refine r_iconst 6 rfl 3 dX9_isParish_5 rfl ?_
  refine r_icmp_ge 9 13 rfl dX9_isParish_6 rfl (fun q__ => absurd q__ (fun q__ => absurd ((nI_leI (a := 3) (b := p) (by omega) (by omega)).mp q__) (by omega))) (fun _ => ?_)
  refine r_iconst 10 rfl 1 dX9_isParish_9 rfl ?_
  refine r_goto 14 dX9_isParish_10 rfl ?_
  refine r_zreturn rfl rfl dX9_isParish_14 (Nat.le_of_ble_eq_true rfl) (Nat.le_of_ble_eq_true rfl) ?_
  exact k

set_option maxHeartbeats 4000000 in
set_option maxRecDepth 20000 in
theorem c_X3_append {Q : am_P} {z : am_Z} {m : Nat → Nat → Int32} {n : Nat} {pm : Nat} (hpm : m 2 1 = nI pm) (hpl : pm ≤ 14) (hf : pm < 14) {c : Int32} (k : Q none (wd z (va_up (va_up m 2 (upd (m 2) 1 (nI (pm + 1)))) 3 (upd (m 3) pm c))) n) : AW mX3_append Q 0 (am_ent (am_l mX3_append) [.ref 2, .int c]) [] (wd z m) n 0 0 := by
  show AW _ _ 0 [some (.ref 2), some (.int c)] [] _ _ 0 0
  refine r_aload_n 1 rfl 0 dX3_append_0 rfl rfl ?_
  refine q_V 4 0 0 rfl [] rfl dX3_append_1 cl_X3_append__X3_isFull (lk_X3_19 rfl) im_X3_isFull (ci := 3) rfl sl_X3__X3_isFull rfl (Nat.le_of_ble_eq_true rfl) (fun _ _ => Nat.le_of_ble_eq_true rfl) rfl rfl (Nat.le_of_ble_eq_true rfl) (Nat.le_of_ble_eq_true rfl) ?_
  refine c_isFull_f hpm hpl hf (k_i ?_)
  refine r_if_ne 7 24 rfl dX3_append_4 rfl (fun q__ => absurd (by decide) q__) (fun _ => ?_)
  refine r_aload_n 8 rfl 0 dX3_append_7 rfl rfl ?_
  refine r_getf (v := .ref 3) (k := 0) 11 rfl dX3_append_8 (gf_X3_11_3 rfl) rfl rfl ?_
  refine r_aload_n 12 rfl 0 dX3_append_11 rfl rfl ?_
  refine r_dup 13 rfl dX3_append_12 rfl ?_
  refine r_getf (v := .int ((m 2) 1)) (k := 1) 16 rfl dX3_append_13 (gf_X3_15_3 rfl) rfl rfl ?_
  rw [show (m 2) 1 = nI pm from hpm]
  refine r_dup_x1 17 rfl dX3_append_16 rfl rfl ?_
  refine r_iconst 18 rfl 1 dX3_append_17 rfl ?_
  refine r_iadd 19 rfl dX3_append_18 ?_
  rw [show (nI pm) + 1 = nI (pm + 1) from nI_add pm 1]
  refine w_putf 22 rfl (k := 1) (va_up m 2 (upd (m 2) 1 (nI (pm + 1)))) dX3_append_19 (pf_X3_15_3 rfl) (by decide) (by decide) rfl (Nat.le_of_ble_eq_true rfl) rfl ⟨rfl, rfl⟩ rfl ?_
  refine r_iload_n 23 rfl 1 dX3_append_22 rfl rfl ?_
  refine w_iast 24 rfl pm (va_up (va_up m 2 (upd (m 2) 1 (nI (pm + 1)))) 3 (upd (m 3) pm c)) dX3_append_23 (by decide) (by decide) (fun _ => rfl) rfl (by omega) (by decide) rfl ?_
  refine r_return rfl dX3_append_24 (Nat.le_of_ble_eq_true rfl) (Nat.le_of_ble_eq_true rfl) ?_
  exact k
