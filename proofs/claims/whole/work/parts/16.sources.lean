/-! the kinds of sources -/
def kc : Nat → Nat
  | 0 => 4
  | 1 => 1
  | 2 => 2
  | 3 => 6
  | _ => 8
theorem dx_X4_smellsAt : (am_y mX4_smellsAt).cls ≠ "java/lang/invoke/MethodHandle" ∧ (am_y mX4_smellsAt).cls ≠ "java/lang/invoke/VarHandle" ∧ (parseMethodDescriptor (am_y mX4_smellsAt).desc).map (fun d => d.parameters.length) = some 2 := by decide +kernel
theorem dx_X4_force : (am_y mX4_force).cls ≠ "java/lang/invoke/MethodHandle" ∧ (am_y mX4_force).cls ≠ "java/lang/invoke/VarHandle" ∧ (parseMethodDescriptor (am_y mX4_force).desc).map (fun d => d.parameters.length) = some 1 := by decide +kernel
theorem dx_X4_ease : (am_y mX4_ease).cls ≠ "java/lang/invoke/MethodHandle" ∧ (am_y mX4_ease).cls ≠ "java/lang/invoke/VarHandle" ∧ (parseMethodDescriptor (am_y mX4_ease).desc).map (fun d => d.parameters.length) = some 0 := by decide +kernel
theorem dx_X4_kindNumber : (am_y mX4_kindNumber).cls ≠ "java/lang/invoke/MethodHandle" ∧ (am_y mX4_kindNumber).cls ≠ "java/lang/invoke/VarHandle" ∧ (parseMethodDescriptor (am_y mX4_kindNumber).desc).map (fun d => d.parameters.length) = some 0 := by decide +kernel
def so_at (kd hr fr : Nat) : Bool := kd == 4 || (fr == 0 && (kd != 2 || hr % 2 == 0))
def so_fo (kd sg bt : Nat) : Nat := if kd = 1 then (if 9 < sg + bt then 9 else sg + bt) else sg
def so_ea (kd : Nat) : Nat := if kd = 3 ∨ kd = 4 then 1 else 0
theorem wd_dy {z : am_Z} {m : Nat → Nat → Int32} {q : Nat} {e : am_E} (hq : 53 < q) (h : z.2.2.1 q = e) : wd z m q = e := by
  unfold wd
  rw [if_neg (by omega), if_neg (by omega)]
  exact h
theorem so_fo_le {kd sg bt : Nat} (h : sg ≤ 9) : so_fo kd sg bt ≤ 9 := by
  unfold so_fo
  split
  · split <;> omega
  · exact h
theorem so_ea_le (kd : Nat) : so_ea kd ≤ 1 := by
  unfold so_ea
  split <;> omega

theorem am_min9 {x : Nat} (h : x < 2 ^ 31) : (if (9 : Int32) < nI x then 9 else nI x) = nI (if 9 < x then 9 else x) := by
  by_cases h9 : 9 < x
  · rw [if_pos h9, if_pos (show (9 : Int32) < nI x from (nI_ltI (a := 9) (by omega) h).mpr h9)]
    rfl
  · rw [if_neg h9, if_neg (show ¬ (9 : Int32) < nI x from fun q => h9 ((nI_ltI (a := 9) (by omega) h).mp q))]

set_option maxHeartbeats 4000000 in
set_option maxRecDepth 20000 in
theorem c_X4_smellsAt {Q : am_P} {h : Nat → am_E} {n : Nat} {q hr fr : Nat} (hfr : fr ≤ 1) (hhr : hr < 2 ^ 31) (k1 : fr = 0 → Q (some (.int 1)) h n) (k0 : ¬ (fr = 0) → Q (some (.int 0)) h n) : AW mX4_smellsAt Q 0 (am_ent (am_l mX4_smellsAt) [.ref q, .int (nI hr), .int (nI fr)]) [] (h) n 0 0 := by
  show AW _ _ 0 [some (.ref q), some (.int (nI hr)), some (.int (nI fr))] [] _ _ 0 0
  refine r_iload_n 1 rfl 2 dX4_smellsAt_0 rfl rfl ?_
  refine r_if_ne 4 8 rfl dX4_smellsAt_1 rfl (fun c1 => ?_) (fun c1 => ?_)
  · replace c1 : ¬ fr = 0 := fun q__ => c1 ((nI_eq (a := fr) (b := 0) (by omega) (by omega)).mpr q__)
    refine r_iconst 9 rfl 0 dX4_smellsAt_8 rfl ?_
    refine r_zreturn rfl rfl dX4_smellsAt_9 (Nat.le_of_ble_eq_true rfl) (Nat.le_of_ble_eq_true rfl) ?_
    exact k0 (by omega)
  · replace c1 : fr = 0 := (nI_eq (a := fr) (b := 0) (by omega) (by omega)).mp c1
    refine r_iconst 5 rfl 1 dX4_smellsAt_4 rfl ?_
    refine r_goto 9 dX4_smellsAt_5 rfl ?_
    refine r_zreturn rfl rfl dX4_smellsAt_9 (Nat.le_of_ble_eq_true rfl) (Nat.le_of_ble_eq_true rfl) ?_
    exact k1 (by omega)

set_option maxHeartbeats 4000000 in
set_option maxRecDepth 20000 in
theorem c_X2_smellsAt {Q : am_P} {h : Nat → am_E} {n : Nat} {q hr fr : Nat} (hfr : fr ≤ 1) (hhr : hr < 2 ^ 31) (k1 : fr = 0 ∧ hr % 2 = 0 → Q (some (.int 1)) h n) (k0 : ¬ (fr = 0 ∧ hr % 2 = 0) → Q (some (.int 0)) h n) : AW mX2_smellsAt Q 0 (am_ent (am_l mX2_smellsAt) [.ref q, .int (nI hr), .int (nI fr)]) [] (h) n 0 0 := by
  show AW _ _ 0 [some (.ref q), some (.int (nI hr)), some (.int (nI fr))] [] _ _ 0 0
  refine r_iload_n 1 rfl 2 dX2_smellsAt_0 rfl rfl ?_
  refine r_if_ne 4 14 rfl dX2_smellsAt_1 rfl (fun c1 => ?_) (fun c1 => ?_)
  · replace c1 : ¬ fr = 0 := fun q__ => c1 ((nI_eq (a := fr) (b := 0) (by omega) (by omega)).mpr q__)
    refine r_iconst 15 rfl 0 dX2_smellsAt_14 rfl ?_
    refine r_zreturn rfl rfl dX2_smellsAt_15 (Nat.le_of_ble_eq_true rfl) (Nat.le_of_ble_eq_true rfl) ?_
    exact k0 (by omega)
  · replace c1 : fr = 0 := (nI_eq (a := fr) (b := 0) (by omega) (by omega)).mp c1
    refine r_iload_n 5 rfl 1 dX2_smellsAt_4 rfl rfl ?_
    refine r_iconst 6 rfl 2 dX2_smellsAt_5 rfl ?_
    refine r_irem 7 rfl dX2_smellsAt_6 (by decide) ?_
    rw [show (nI hr) - (nI hr) / 2 * 2 = nI (hr % 2) from pk_rem (a := hr) (d := 2) (by omega) (by decide) (by decide)]
    refine r_if_ne 10 14 rfl dX2_smellsAt_7 rfl (fun c7 => ?_) (fun c7 => ?_)
    · replace c7 : ¬ (hr % 2) = 0 := fun q__ => c7 ((nI_eq (a := (hr % 2)) (b := 0) (by omega) (by omega)).mpr q__)
      refine r_iconst 15 rfl 0 dX2_smellsAt_14 rfl ?_
      refine r_zreturn rfl rfl dX2_smellsAt_15 (Nat.le_of_ble_eq_true rfl) (Nat.le_of_ble_eq_true rfl) ?_
      exact k0 (by omega)
    · replace c7 : hr % 2 = 0 := (nI_eq (a := (hr % 2)) (b := 0) (by omega) (by omega)).mp c7
      refine r_iconst 11 rfl 1 dX2_smellsAt_10 rfl ?_
      refine r_goto 15 dX2_smellsAt_11 rfl ?_
      refine r_zreturn rfl rfl dX2_smellsAt_15 (Nat.le_of_ble_eq_true rfl) (Nat.le_of_ble_eq_true rfl) ?_
      exact k1 (by omega)

set_option maxHeartbeats 4000000 in
set_option maxRecDepth 20000 in
theorem c_X8_smellsAt {Q : am_P} {h : Nat → am_E} {n : Nat} {q hr fr : Nat} (hfr : fr ≤ 1) (hhr : hr < 2 ^ 31) (k : Q (some (.int 1)) h n) : AW mX8_smellsAt Q 0 (am_ent (am_l mX8_smellsAt) [.ref q, .int (nI hr), .int (nI fr)]) [] (h) n 0 0 := by
  show AW _ _ 0 [some (.ref q), some (.int (nI hr)), some (.int (nI fr))] [] _ _ 0 0
  refine r_iconst 1 rfl 1 dX8_smellsAt_0 rfl ?_
  refine r_zreturn rfl rfl dX8_smellsAt_1 (Nat.le_of_ble_eq_true rfl) (Nat.le_of_ble_eq_true rfl) ?_
  exact k

set_option maxHeartbeats 4000000 in
set_option maxRecDepth 20000 in
theorem c_X4_ease {Q : am_P} {h : Nat → am_E} {n : Nat} {q : Nat} (k : Q (some (.int 0)) h n) : AW mX4_ease Q 0 (am_ent (am_l mX4_ease) [.ref q]) [] (h) n 0 0 := by
  show AW _ _ 0 [some (.ref q)] [] _ _ 0 0
  refine r_iconst 1 rfl 0 dX4_ease_0 rfl ?_
  refine r_ireturn rfl dX4_ease_1 (Nat.le_of_ble_eq_true rfl) (Nat.le_of_ble_eq_true rfl) ?_
  exact k

set_option maxHeartbeats 4000000 in
set_option maxRecDepth 20000 in
theorem c_X6_ease {Q : am_P} {h : Nat → am_E} {n : Nat} {q : Nat} (k : Q (some (.int 1)) h n) : AW mX6_ease Q 0 (am_ent (am_l mX6_ease) [.ref q]) [] (h) n 0 0 := by
  show AW _ _ 0 [some (.ref q)] [] _ _ 0 0
  refine r_iconst 1 rfl 1 dX6_ease_0 rfl ?_
  refine r_ireturn rfl dX6_ease_1 (Nat.le_of_ble_eq_true rfl) (Nat.le_of_ble_eq_true rfl) ?_
  exact k

set_option maxHeartbeats 4000000 in
set_option maxRecDepth 20000 in
theorem c_X4_kindNumber {Q : am_P} {h : Nat → am_E} {n : Nat} {q : Nat} (k : Q (some (.int 0)) h n) : AW mX4_kindNumber Q 0 (am_ent (am_l mX4_kindNumber) [.ref q]) [] (h) n 0 0 := by
  show AW _ _ 0 [some (.ref q)] [] _ _ 0 0
  refine r_iconst 1 rfl 0 dX4_kindNumber_0 rfl ?_
  refine r_ireturn rfl dX4_kindNumber_1 (Nat.le_of_ble_eq_true rfl) (Nat.le_of_ble_eq_true rfl) ?_
  exact k

set_option maxHeartbeats 4000000 in
set_option maxRecDepth 20000 in
theorem c_X1_kindNumber {Q : am_P} {h : Nat → am_E} {n : Nat} {q : Nat} (k : Q (some (.int 1)) h n) : AW mX1_kindNumber Q 0 (am_ent (am_l mX1_kindNumber) [.ref q]) [] (h) n 0 0 := by
  show AW _ _ 0 [some (.ref q)] [] _ _ 0 0
  refine r_iconst 1 rfl 1 dX1_kindNumber_0 rfl ?_
  refine r_ireturn rfl dX1_kindNumber_1 (Nat.le_of_ble_eq_true rfl) (Nat.le_of_ble_eq_true rfl) ?_
  exact k

set_option maxHeartbeats 4000000 in
set_option maxRecDepth 20000 in
theorem c_X2_kindNumber {Q : am_P} {h : Nat → am_E} {n : Nat} {q : Nat} (k : Q (some (.int 2)) h n) : AW mX2_kindNumber Q 0 (am_ent (am_l mX2_kindNumber) [.ref q]) [] (h) n 0 0 := by
  show AW _ _ 0 [some (.ref q)] [] _ _ 0 0
  refine r_iconst 1 rfl 2 dX2_kindNumber_0 rfl ?_
  refine r_ireturn rfl dX2_kindNumber_1 (Nat.le_of_ble_eq_true rfl) (Nat.le_of_ble_eq_true rfl) ?_
  exact k

set_option maxHeartbeats 4000000 in
set_option maxRecDepth 20000 in
theorem c_X6_kindNumber {Q : am_P} {h : Nat → am_E} {n : Nat} {q : Nat} (k : Q (some (.int 3)) h n) : AW mX6_kindNumber Q 0 (am_ent (am_l mX6_kindNumber) [.ref q]) [] (h) n 0 0 := by
  show AW _ _ 0 [some (.ref q)] [] _ _ 0 0
  refine r_iconst 1 rfl 3 dX6_kindNumber_0 rfl ?_
  refine r_ireturn rfl dX6_kindNumber_1 (Nat.le_of_ble_eq_true rfl) (Nat.le_of_ble_eq_true rfl) ?_
  exact k

set_option maxHeartbeats 4000000 in
set_option maxRecDepth 20000 in
theorem c_X8_kindNumber {Q : am_P} {h : Nat → am_E} {n : Nat} {q : Nat} (k : Q (some (.int 4)) h n) : AW mX8_kindNumber Q 0 (am_ent (am_l mX8_kindNumber) [.ref q]) [] (h) n 0 0 := by
  show AW _ _ 0 [some (.ref q)] [] _ _ 0 0
  refine r_iconst 1 rfl 4 dX8_kindNumber_0 rfl ?_
  refine r_ireturn rfl dX8_kindNumber_1 (Nat.le_of_ble_eq_true rfl) (Nat.le_of_ble_eq_true rfl) ?_
  exact k

set_option maxHeartbeats 4000000 in
set_option maxRecDepth 20000 in
theorem c_force_2 {Q : am_P} {z : am_Z} {m : Nat → Nat → Int32} {n : Nat} {q pa ce sg : Nat} (hq : 53 < q) (hz : z.2.2.1 q = .inr (.inr (2, [.int (nI pa), .int (nI ce), .int (nI sg)]))) {x : Int32} (k : Q (some (.int (nI sg))) (wd z m) n) : AW mX4_force Q 0 (am_ent (am_l mX4_force) [.ref q, .int x]) [] (wd z m) n 0 0 := by
  show AW _ _ 0 [some (.ref q), some (.int x)] [] _ _ 0 0
  refine r_aload_n 1 rfl 0 dX4_force_0 rfl rfl ?_
  refine r_getf (v := .int (nI sg)) (k := 2) 4 rfl dX4_force_1 (gf_X4_16_2 rfl) (wd_dy hq hz) rfl ?_
  refine r_ireturn rfl dX4_force_4 (Nat.le_of_ble_eq_true rfl) (Nat.le_of_ble_eq_true rfl) ?_
  exact k

set_option maxHeartbeats 4000000 in
set_option maxRecDepth 20000 in
theorem c_force_4 {Q : am_P} {z : am_Z} {m : Nat → Nat → Int32} {n : Nat} {q pa ce sg : Nat} (hq : 53 < q) (hz : z.2.2.1 q = .inr (.inr (4, [.int (nI pa), .int (nI ce), .int (nI sg)]))) {x : Int32} (k : Q (some (.int (nI sg))) (wd z m) n) : AW mX4_force Q 0 (am_ent (am_l mX4_force) [.ref q, .int x]) [] (wd z m) n 0 0 := by
  show AW _ _ 0 [some (.ref q), some (.int x)] [] _ _ 0 0
  refine r_aload_n 1 rfl 0 dX4_force_0 rfl rfl ?_
  refine r_getf (v := .int (nI sg)) (k := 2) 4 rfl dX4_force_1 (gf_X4_16_4 rfl) (wd_dy hq hz) rfl ?_
  refine r_ireturn rfl dX4_force_4 (Nat.le_of_ble_eq_true rfl) (Nat.le_of_ble_eq_true rfl) ?_
  exact k

set_option maxHeartbeats 4000000 in
set_option maxRecDepth 20000 in
theorem c_force_6 {Q : am_P} {z : am_Z} {m : Nat → Nat → Int32} {n : Nat} {q pa ce sg : Nat} (hq : 53 < q) (hz : z.2.2.1 q = .inr (.inr (6, [.int (nI pa), .int (nI ce), .int (nI sg)]))) {x : Int32} (k : Q (some (.int (nI sg))) (wd z m) n) : AW mX4_force Q 0 (am_ent (am_l mX4_force) [.ref q, .int x]) [] (wd z m) n 0 0 := by
  show AW _ _ 0 [some (.ref q), some (.int x)] [] _ _ 0 0
  refine r_aload_n 1 rfl 0 dX4_force_0 rfl rfl ?_
  refine r_getf (v := .int (nI sg)) (k := 2) 4 rfl dX4_force_1 (gf_X4_16_6 rfl) (wd_dy hq hz) rfl ?_
  refine r_ireturn rfl dX4_force_4 (Nat.le_of_ble_eq_true rfl) (Nat.le_of_ble_eq_true rfl) ?_
  exact k

set_option maxHeartbeats 4000000 in
set_option maxRecDepth 20000 in
theorem c_force_8 {Q : am_P} {z : am_Z} {m : Nat → Nat → Int32} {n : Nat} {q pa ce sg : Nat} (hq : 53 < q) (hz : z.2.2.1 q = .inr (.inr (8, [.int (nI pa), .int (nI ce), .int (nI sg)]))) {x : Int32} (k : Q (some (.int (nI sg))) (wd z m) n) : AW mX4_force Q 0 (am_ent (am_l mX4_force) [.ref q, .int x]) [] (wd z m) n 0 0 := by
  show AW _ _ 0 [some (.ref q), some (.int x)] [] _ _ 0 0
  refine r_aload_n 1 rfl 0 dX4_force_0 rfl rfl ?_
  refine r_getf (v := .int (nI sg)) (k := 2) 4 rfl dX4_force_1 (gf_X4_16_8 rfl) (wd_dy hq hz) rfl ?_
  refine r_ireturn rfl dX4_force_4 (Nat.le_of_ble_eq_true rfl) (Nat.le_of_ble_eq_true rfl) ?_
  exact k

set_option maxHeartbeats 4000000 in
set_option maxRecDepth 20000 in
theorem c_force_1 {Q : am_P} {z : am_Z} {m : Nat → Nat → Int32} {n : Nat} {q pa ce sg : Nat} (hq : 53 < q) (hz : z.2.2.1 q = .inr (.inr (1, [.int (nI pa), .int (nI ce), .int (nI sg)]))) {bt : Nat} (hsg : sg ≤ 9) (hbt : bt < 2 ^ 30) (k : Q (some (.int (nI (if 9 < sg + bt then 9 else sg + bt)))) (wd z m) n) : AW mX1_force Q 0 (am_ent (am_l mX1_force) [.ref q, .int (nI bt)]) [] (wd z m) n 0 0 := by
  show AW _ _ 0 [some (.ref q), some (.int (nI bt))] [] _ _ 0 0
  refine r_aload_n 1 rfl 0 dX1_force_0 rfl rfl ?_
  refine r_getf (v := .int (nI sg)) (k := 2) 4 rfl dX1_force_1 (gf_X1_9_1 rfl) (wd_dy hq hz) rfl ?_
  refine r_iload_n 5 rfl 1 dX1_force_4 rfl rfl ?_
  refine r_iadd 6 rfl dX1_force_5 ?_
  rw [show (nI sg) + (nI bt) = nI (sg + bt) from nI_add sg bt]
  refine r_bipush 8 rfl 9 dX1_force_6 (by decide) ?_
  refine r_min 11 rfl dX1_force_8 (lk_X1_15 rfl) (by decide) (Nat.le_of_ble_eq_true rfl) (Nat.le_of_ble_eq_true rfl) (Nat.le_of_ble_eq_true rfl) ?_
  rw [show (if 9 < nI (sg + bt) then 9 else nI (sg + bt)) = nI (if 9 < sg + bt then 9 else sg + bt) from am_min9 (by omega)]
  refine r_ireturn rfl dX1_force_11 (Nat.le_of_ble_eq_true rfl) (Nat.le_of_ble_eq_true rfl) ?_
  exact k

set_option maxHeartbeats 4000000 in
set_option maxRecDepth 20000 in
theorem c_smells_7 {Q : am_P} {z : am_Z} {m : Nat → Nat → Int32} {n : Nat} {q kd pa ce sg s bn hr fr : Nat} (hq : 53 < q) (hz : z.2.2.1 q = .inr (.inr (kc kd, [.int (nI pa), .int (nI ce), .int (nI sg)]))) (hkd : kd ≤ 4) (hs : s < 6) (hbn : m 8 s = nI bn) (hb1 : bn ≤ 1) (hhr : m 7 5 = nI hr) (hh : hr < 2 ^ 31) (hfr : m 7 4 = nI fr) (hf : fr ≤ 1) (k1 : bn = 1 ∧ so_at kd hr fr = true → Q (some (.int 1)) (wd z m) n) (k0 : ¬ (bn = 1 ∧ so_at kd hr fr = true) → Q (some (.int 0)) (wd z m) n) : AW mX5_smells Q 0 (am_ent (am_l mX5_smells) [.ref 7, .ref q, .int (nI s)]) [] (wd z m) n 0 0 := by
  show AW _ _ 0 [some (.ref 7), some (.ref q), some (.int (nI s))] [] _ _ 0 0
  rcases (show kd = 0 ∨ kd = 1 ∨ kd = 2 ∨ kd = 3 ∨ kd = 4 by omega) with rfl | rfl | rfl | rfl | rfl
  · refine r_aload_n 1 rfl 0 dX5_smells_0 rfl rfl ?_
    refine r_getf (v := .ref 8) (k := 1) 4 rfl dX5_smells_1 (gf_X5_9_5 rfl) rfl rfl ?_
    refine r_iload_n 5 rfl 2 dX5_smells_4 rfl rfl ?_
    refine r_zald (f := m 8) 6 rfl s dX5_smells_5 (by decide) rfl rfl (by omega) (by decide) ?_
    rw [show (m 8) s = nI bn from hbn]
    refine r_if_eq 9 28 rfl dX5_smells_6 rfl (fun c6 => ?_) (fun c6 => ?_)
    · replace c6 : bn = 0 := (nI_eq (a := bn) (b := 0) (by omega) (by omega)).mp c6
      refine r_iconst 29 rfl 0 dX5_smells_28 rfl ?_
      refine r_zreturn rfl rfl dX5_smells_29 (Nat.le_of_ble_eq_true rfl) (Nat.le_of_ble_eq_true rfl) ?_
      exact k0 (fun w => by omega)
    · replace c6 : ¬ bn = 0 := fun q__ => c6 ((nI_eq (a := bn) (b := 0) (by omega) (by omega)).mpr q__)
      refine r_aload_n 10 rfl 1 dX5_smells_9 rfl rfl ?_
      refine r_aload_n 11 rfl 0 dX5_smells_10 rfl rfl ?_
      refine r_getf (v := .int ((m 7) 5)) (k := 5) 14 rfl dX5_smells_11 (gf_X5_42_5 rfl) rfl rfl ?_
      rw [show (m 7) 5 = nI hr from hhr]
      refine r_aload_n 15 rfl 0 dX5_smells_14 rfl rfl ?_
      refine r_getf (v := .int ((m 7) 4)) (k := 4) 18 rfl dX5_smells_15 (gf_X5_38_5 rfl) rfl rfl ?_
      rw [show (m 7) 4 = nI fr from hfr]
      refine q_V 21 0 0 rfl [.int (nI hr), .int (nI fr)] rfl dX5_smells_18 cl_X5_smells__X4_smellsAt (lk_X5_54 rfl) im_X4_smellsAt (ci := 4) rfl sl_X4__X4_smellsAt (wd_dy hq hz) (Nat.le_of_ble_eq_true rfl) (fun _ _ => Nat.le_of_ble_eq_true rfl) rfl rfl (Nat.le_of_ble_eq_true rfl) (Nat.le_of_ble_eq_true rfl) ?_
      refine c_X4_smellsAt hf hh (fun hc => (k_i ?_)) (fun hc => (k_i ?_))
      · refine r_if_eq 24 28 rfl dX5_smells_21 rfl (fun q__ => absurd q__ (by decide)) (fun _ => ?_)
        refine r_iconst 25 rfl 1 dX5_smells_24 rfl ?_
        refine r_goto 29 dX5_smells_25 rfl ?_
        refine r_zreturn rfl rfl dX5_smells_29 (Nat.le_of_ble_eq_true rfl) (Nat.le_of_ble_eq_true rfl) ?_
        exact k1 ⟨by omega, by simp [so_at, hc]⟩
      · refine r_if_eq 24 28 rfl dX5_smells_21 rfl (fun _ => ?_) (fun q__ => absurd (by decide) q__)
        refine r_iconst 29 rfl 0 dX5_smells_28 rfl ?_
        refine r_zreturn rfl rfl dX5_smells_29 (Nat.le_of_ble_eq_true rfl) (Nat.le_of_ble_eq_true rfl) ?_
        exact k0 (fun w => by have w2 := w.2; simp [so_at] at w2; exact hc (by first | exact w2 | omega))
  · refine r_aload_n 1 rfl 0 dX5_smells_0 rfl rfl ?_
    refine r_getf (v := .ref 8) (k := 1) 4 rfl dX5_smells_1 (gf_X5_9_5 rfl) rfl rfl ?_
    refine r_iload_n 5 rfl 2 dX5_smells_4 rfl rfl ?_
    refine r_zald (f := m 8) 6 rfl s dX5_smells_5 (by decide) rfl rfl (by omega) (by decide) ?_
    rw [show (m 8) s = nI bn from hbn]
    refine r_if_eq 9 28 rfl dX5_smells_6 rfl (fun c6 => ?_) (fun c6 => ?_)
    · replace c6 : bn = 0 := (nI_eq (a := bn) (b := 0) (by omega) (by omega)).mp c6
      refine r_iconst 29 rfl 0 dX5_smells_28 rfl ?_
      refine r_zreturn rfl rfl dX5_smells_29 (Nat.le_of_ble_eq_true rfl) (Nat.le_of_ble_eq_true rfl) ?_
      exact k0 (fun w => by omega)
    · replace c6 : ¬ bn = 0 := fun q__ => c6 ((nI_eq (a := bn) (b := 0) (by omega) (by omega)).mpr q__)
      refine r_aload_n 10 rfl 1 dX5_smells_9 rfl rfl ?_
      refine r_aload_n 11 rfl 0 dX5_smells_10 rfl rfl ?_
      refine r_getf (v := .int ((m 7) 5)) (k := 5) 14 rfl dX5_smells_11 (gf_X5_42_5 rfl) rfl rfl ?_
      rw [show (m 7) 5 = nI hr from hhr]
      refine r_aload_n 15 rfl 0 dX5_smells_14 rfl rfl ?_
      refine r_getf (v := .int ((m 7) 4)) (k := 4) 18 rfl dX5_smells_15 (gf_X5_38_5 rfl) rfl rfl ?_
      rw [show (m 7) 4 = nI fr from hfr]
      refine q_U 21 0 0 rfl [.int (nI hr), .int (nI fr)] rfl dX5_smells_18 cl_X5_smells__X4_smellsAt (lk_X5_54 rfl) sm_X4_smellsAt im_X4_smellsAt cd_X4_smellsAt dx_X4_smellsAt im_X4_smellsAt (ci := 1) rfl sl_X1__X4_smellsAt (wd_dy hq hz) (Nat.le_of_ble_eq_true rfl) (fun _ _ => Nat.le_of_ble_eq_true rfl) rfl rfl (Nat.le_of_ble_eq_true rfl) (Nat.le_of_ble_eq_true rfl) ?_
      refine c_X4_smellsAt hf hh (fun hc => (k_i ?_)) (fun hc => (k_i ?_))
      · refine r_if_eq 24 28 rfl dX5_smells_21 rfl (fun q__ => absurd q__ (by decide)) (fun _ => ?_)
        refine r_iconst 25 rfl 1 dX5_smells_24 rfl ?_
        refine r_goto 29 dX5_smells_25 rfl ?_
        refine r_zreturn rfl rfl dX5_smells_29 (Nat.le_of_ble_eq_true rfl) (Nat.le_of_ble_eq_true rfl) ?_
        exact k1 ⟨by omega, by simp [so_at, hc]⟩
      · refine r_if_eq 24 28 rfl dX5_smells_21 rfl (fun _ => ?_) (fun q__ => absurd (by decide) q__)
        refine r_iconst 29 rfl 0 dX5_smells_28 rfl ?_
        refine r_zreturn rfl rfl dX5_smells_29 (Nat.le_of_ble_eq_true rfl) (Nat.le_of_ble_eq_true rfl) ?_
        exact k0 (fun w => by have w2 := w.2; simp [so_at] at w2; exact hc (by first | exact w2 | omega))
  · refine r_aload_n 1 rfl 0 dX5_smells_0 rfl rfl ?_
    refine r_getf (v := .ref 8) (k := 1) 4 rfl dX5_smells_1 (gf_X5_9_5 rfl) rfl rfl ?_
    refine r_iload_n 5 rfl 2 dX5_smells_4 rfl rfl ?_
    refine r_zald (f := m 8) 6 rfl s dX5_smells_5 (by decide) rfl rfl (by omega) (by decide) ?_
    rw [show (m 8) s = nI bn from hbn]
    refine r_if_eq 9 28 rfl dX5_smells_6 rfl (fun c6 => ?_) (fun c6 => ?_)
    · replace c6 : bn = 0 := (nI_eq (a := bn) (b := 0) (by omega) (by omega)).mp c6
      refine r_iconst 29 rfl 0 dX5_smells_28 rfl ?_
      refine r_zreturn rfl rfl dX5_smells_29 (Nat.le_of_ble_eq_true rfl) (Nat.le_of_ble_eq_true rfl) ?_
      exact k0 (fun w => by omega)
    · replace c6 : ¬ bn = 0 := fun q__ => c6 ((nI_eq (a := bn) (b := 0) (by omega) (by omega)).mpr q__)
      refine r_aload_n 10 rfl 1 dX5_smells_9 rfl rfl ?_
      refine r_aload_n 11 rfl 0 dX5_smells_10 rfl rfl ?_
      refine r_getf (v := .int ((m 7) 5)) (k := 5) 14 rfl dX5_smells_11 (gf_X5_42_5 rfl) rfl rfl ?_
      rw [show (m 7) 5 = nI hr from hhr]
      refine r_aload_n 15 rfl 0 dX5_smells_14 rfl rfl ?_
      refine r_getf (v := .int ((m 7) 4)) (k := 4) 18 rfl dX5_smells_15 (gf_X5_38_5 rfl) rfl rfl ?_
      rw [show (m 7) 4 = nI fr from hfr]
      refine q_U 21 0 0 rfl [.int (nI hr), .int (nI fr)] rfl dX5_smells_18 cl_X5_smells__X2_smellsAt (lk_X5_54 rfl) sm_X4_smellsAt im_X4_smellsAt cd_X4_smellsAt dx_X4_smellsAt im_X2_smellsAt (ci := 2) rfl sl_X2__X4_smellsAt (wd_dy hq hz) (Nat.le_of_ble_eq_true rfl) (fun _ _ => Nat.le_of_ble_eq_true rfl) rfl rfl (Nat.le_of_ble_eq_true rfl) (Nat.le_of_ble_eq_true rfl) ?_
      refine c_X2_smellsAt hf hh (fun hc => (k_i ?_)) (fun hc => (k_i ?_))
      · refine r_if_eq 24 28 rfl dX5_smells_21 rfl (fun q__ => absurd q__ (by decide)) (fun _ => ?_)
        refine r_iconst 25 rfl 1 dX5_smells_24 rfl ?_
        refine r_goto 29 dX5_smells_25 rfl ?_
        refine r_zreturn rfl rfl dX5_smells_29 (Nat.le_of_ble_eq_true rfl) (Nat.le_of_ble_eq_true rfl) ?_
        exact k1 ⟨by omega, by simp [so_at, hc.1, hc.2]⟩
      · refine r_if_eq 24 28 rfl dX5_smells_21 rfl (fun _ => ?_) (fun q__ => absurd (by decide) q__)
        refine r_iconst 29 rfl 0 dX5_smells_28 rfl ?_
        refine r_zreturn rfl rfl dX5_smells_29 (Nat.le_of_ble_eq_true rfl) (Nat.le_of_ble_eq_true rfl) ?_
        exact k0 (fun w => by have w2 := w.2; simp [so_at] at w2; exact hc (by first | exact w2 | omega))
  · refine r_aload_n 1 rfl 0 dX5_smells_0 rfl rfl ?_
    refine r_getf (v := .ref 8) (k := 1) 4 rfl dX5_smells_1 (gf_X5_9_5 rfl) rfl rfl ?_
    refine r_iload_n 5 rfl 2 dX5_smells_4 rfl rfl ?_
    refine r_zald (f := m 8) 6 rfl s dX5_smells_5 (by decide) rfl rfl (by omega) (by decide) ?_
    rw [show (m 8) s = nI bn from hbn]
    refine r_if_eq 9 28 rfl dX5_smells_6 rfl (fun c6 => ?_) (fun c6 => ?_)
    · replace c6 : bn = 0 := (nI_eq (a := bn) (b := 0) (by omega) (by omega)).mp c6
      refine r_iconst 29 rfl 0 dX5_smells_28 rfl ?_
      refine r_zreturn rfl rfl dX5_smells_29 (Nat.le_of_ble_eq_true rfl) (Nat.le_of_ble_eq_true rfl) ?_
      exact k0 (fun w => by omega)
    · replace c6 : ¬ bn = 0 := fun q__ => c6 ((nI_eq (a := bn) (b := 0) (by omega) (by omega)).mpr q__)
      refine r_aload_n 10 rfl 1 dX5_smells_9 rfl rfl ?_
      refine r_aload_n 11 rfl 0 dX5_smells_10 rfl rfl ?_
      refine r_getf (v := .int ((m 7) 5)) (k := 5) 14 rfl dX5_smells_11 (gf_X5_42_5 rfl) rfl rfl ?_
      rw [show (m 7) 5 = nI hr from hhr]
      refine r_aload_n 15 rfl 0 dX5_smells_14 rfl rfl ?_
      refine r_getf (v := .int ((m 7) 4)) (k := 4) 18 rfl dX5_smells_15 (gf_X5_38_5 rfl) rfl rfl ?_
      rw [show (m 7) 4 = nI fr from hfr]
      refine q_U 21 0 0 rfl [.int (nI hr), .int (nI fr)] rfl dX5_smells_18 cl_X5_smells__X4_smellsAt (lk_X5_54 rfl) sm_X4_smellsAt im_X4_smellsAt cd_X4_smellsAt dx_X4_smellsAt im_X4_smellsAt (ci := 6) rfl sl_X6__X4_smellsAt (wd_dy hq hz) (Nat.le_of_ble_eq_true rfl) (fun _ _ => Nat.le_of_ble_eq_true rfl) rfl rfl (Nat.le_of_ble_eq_true rfl) (Nat.le_of_ble_eq_true rfl) ?_
      refine c_X4_smellsAt hf hh (fun hc => (k_i ?_)) (fun hc => (k_i ?_))
      · refine r_if_eq 24 28 rfl dX5_smells_21 rfl (fun q__ => absurd q__ (by decide)) (fun _ => ?_)
        refine r_iconst 25 rfl 1 dX5_smells_24 rfl ?_
        refine r_goto 29 dX5_smells_25 rfl ?_
        refine r_zreturn rfl rfl dX5_smells_29 (Nat.le_of_ble_eq_true rfl) (Nat.le_of_ble_eq_true rfl) ?_
        exact k1 ⟨by omega, by simp [so_at, hc]⟩
      · refine r_if_eq 24 28 rfl dX5_smells_21 rfl (fun _ => ?_) (fun q__ => absurd (by decide) q__)
        refine r_iconst 29 rfl 0 dX5_smells_28 rfl ?_
        refine r_zreturn rfl rfl dX5_smells_29 (Nat.le_of_ble_eq_true rfl) (Nat.le_of_ble_eq_true rfl) ?_
        exact k0 (fun w => by have w2 := w.2; simp [so_at] at w2; exact hc (by first | exact w2 | omega))
  · refine r_aload_n 1 rfl 0 dX5_smells_0 rfl rfl ?_
    refine r_getf (v := .ref 8) (k := 1) 4 rfl dX5_smells_1 (gf_X5_9_5 rfl) rfl rfl ?_
    refine r_iload_n 5 rfl 2 dX5_smells_4 rfl rfl ?_
    refine r_zald (f := m 8) 6 rfl s dX5_smells_5 (by decide) rfl rfl (by omega) (by decide) ?_
    rw [show (m 8) s = nI bn from hbn]
    refine r_if_eq 9 28 rfl dX5_smells_6 rfl (fun c6 => ?_) (fun c6 => ?_)
    · replace c6 : bn = 0 := (nI_eq (a := bn) (b := 0) (by omega) (by omega)).mp c6
      refine r_iconst 29 rfl 0 dX5_smells_28 rfl ?_
      refine r_zreturn rfl rfl dX5_smells_29 (Nat.le_of_ble_eq_true rfl) (Nat.le_of_ble_eq_true rfl) ?_
      exact k0 (fun w => by omega)
    · replace c6 : ¬ bn = 0 := fun q__ => c6 ((nI_eq (a := bn) (b := 0) (by omega) (by omega)).mpr q__)
      refine r_aload_n 10 rfl 1 dX5_smells_9 rfl rfl ?_
      refine r_aload_n 11 rfl 0 dX5_smells_10 rfl rfl ?_
      refine r_getf (v := .int ((m 7) 5)) (k := 5) 14 rfl dX5_smells_11 (gf_X5_42_5 rfl) rfl rfl ?_
      rw [show (m 7) 5 = nI hr from hhr]
      refine r_aload_n 15 rfl 0 dX5_smells_14 rfl rfl ?_
      refine r_getf (v := .int ((m 7) 4)) (k := 4) 18 rfl dX5_smells_15 (gf_X5_38_5 rfl) rfl rfl ?_
      rw [show (m 7) 4 = nI fr from hfr]
      refine q_U 21 0 0 rfl [.int (nI hr), .int (nI fr)] rfl dX5_smells_18 cl_X5_smells__X8_smellsAt (lk_X5_54 rfl) sm_X4_smellsAt im_X4_smellsAt cd_X4_smellsAt dx_X4_smellsAt im_X8_smellsAt (ci := 8) rfl sl_X8__X4_smellsAt (wd_dy hq hz) (Nat.le_of_ble_eq_true rfl) (fun _ _ => Nat.le_of_ble_eq_true rfl) rfl rfl (Nat.le_of_ble_eq_true rfl) (Nat.le_of_ble_eq_true rfl) ?_
      refine c_X8_smellsAt hf hh (k_i ?_)
      refine r_if_eq 24 28 rfl dX5_smells_21 rfl (fun q__ => absurd q__ (by decide)) (fun _ => ?_)
      refine r_iconst 25 rfl 1 dX5_smells_24 rfl ?_
      refine r_goto 29 dX5_smells_25 rfl ?_
      refine r_zreturn rfl rfl dX5_smells_29 (Nat.le_of_ble_eq_true rfl) (Nat.le_of_ble_eq_true rfl) ?_
      exact k1 ⟨by omega, by simp [so_at]⟩

set_option maxHeartbeats 4000000 in
set_option maxRecDepth 20000 in
theorem c_smells_21 {Q : am_P} {z : am_Z} {m : Nat → Nat → Int32} {n : Nat} {q kd pa ce sg s bn hr fr : Nat} (hq : 53 < q) (hz : z.2.2.1 q = .inr (.inr (kc kd, [.int (nI pa), .int (nI ce), .int (nI sg)]))) (hkd : kd ≤ 4) (hs : s < 6) (hbn : m 22 s = nI bn) (hb1 : bn ≤ 1) (hhr : m 21 5 = nI hr) (hh : hr < 2 ^ 31) (hfr : m 21 4 = nI fr) (hf : fr ≤ 1) (k1 : bn = 1 ∧ so_at kd hr fr = true → Q (some (.int 1)) (wd z m) n) (k0 : ¬ (bn = 1 ∧ so_at kd hr fr = true) → Q (some (.int 0)) (wd z m) n) : AW mX5_smells Q 0 (am_ent (am_l mX5_smells) [.ref 21, .ref q, .int (nI s)]) [] (wd z m) n 0 0 := by
  show AW _ _ 0 [some (.ref 21), some (.ref q), some (.int (nI s))] [] _ _ 0 0
  rcases (show kd = 0 ∨ kd = 1 ∨ kd = 2 ∨ kd = 3 ∨ kd = 4 by omega) with rfl | rfl | rfl | rfl | rfl
  · refine r_aload_n 1 rfl 0 dX5_smells_0 rfl rfl ?_
    refine r_getf (v := .ref 22) (k := 1) 4 rfl dX5_smells_1 (gf_X5_9_5 rfl) rfl rfl ?_
    refine r_iload_n 5 rfl 2 dX5_smells_4 rfl rfl ?_
    refine r_zald (f := m 22) 6 rfl s dX5_smells_5 (by decide) rfl rfl (by omega) (by decide) ?_
    rw [show (m 22) s = nI bn from hbn]
    refine r_if_eq 9 28 rfl dX5_smells_6 rfl (fun c6 => ?_) (fun c6 => ?_)
    · replace c6 : bn = 0 := (nI_eq (a := bn) (b := 0) (by omega) (by omega)).mp c6
      refine r_iconst 29 rfl 0 dX5_smells_28 rfl ?_
      refine r_zreturn rfl rfl dX5_smells_29 (Nat.le_of_ble_eq_true rfl) (Nat.le_of_ble_eq_true rfl) ?_
      exact k0 (fun w => by omega)
    · replace c6 : ¬ bn = 0 := fun q__ => c6 ((nI_eq (a := bn) (b := 0) (by omega) (by omega)).mpr q__)
      refine r_aload_n 10 rfl 1 dX5_smells_9 rfl rfl ?_
      refine r_aload_n 11 rfl 0 dX5_smells_10 rfl rfl ?_
      refine r_getf (v := .int ((m 21) 5)) (k := 5) 14 rfl dX5_smells_11 (gf_X5_42_5 rfl) rfl rfl ?_
      rw [show (m 21) 5 = nI hr from hhr]
      refine r_aload_n 15 rfl 0 dX5_smells_14 rfl rfl ?_
      refine r_getf (v := .int ((m 21) 4)) (k := 4) 18 rfl dX5_smells_15 (gf_X5_38_5 rfl) rfl rfl ?_
      rw [show (m 21) 4 = nI fr from hfr]
      refine q_V 21 0 0 rfl [.int (nI hr), .int (nI fr)] rfl dX5_smells_18 cl_X5_smells__X4_smellsAt (lk_X5_54 rfl) im_X4_smellsAt (ci := 4) rfl sl_X4__X4_smellsAt (wd_dy hq hz) (Nat.le_of_ble_eq_true rfl) (fun _ _ => Nat.le_of_ble_eq_true rfl) rfl rfl (Nat.le_of_ble_eq_true rfl) (Nat.le_of_ble_eq_true rfl) ?_
      refine c_X4_smellsAt hf hh (fun hc => (k_i ?_)) (fun hc => (k_i ?_))
      · refine r_if_eq 24 28 rfl dX5_smells_21 rfl (fun q__ => absurd q__ (by decide)) (fun _ => ?_)
        refine r_iconst 25 rfl 1 dX5_smells_24 rfl ?_
        refine r_goto 29 dX5_smells_25 rfl ?_
        refine r_zreturn rfl rfl dX5_smells_29 (Nat.le_of_ble_eq_true rfl) (Nat.le_of_ble_eq_true rfl) ?_
        exact k1 ⟨by omega, by simp [so_at, hc]⟩
      · refine r_if_eq 24 28 rfl dX5_smells_21 rfl (fun _ => ?_) (fun q__ => absurd (by decide) q__)
        refine r_iconst 29 rfl 0 dX5_smells_28 rfl ?_
        refine r_zreturn rfl rfl dX5_smells_29 (Nat.le_of_ble_eq_true rfl) (Nat.le_of_ble_eq_true rfl) ?_
        exact k0 (fun w => by have w2 := w.2; simp [so_at] at w2; exact hc (by first | exact w2 | omega))
  · refine r_aload_n 1 rfl 0 dX5_smells_0 rfl rfl ?_
    refine r_getf (v := .ref 22) (k := 1) 4 rfl dX5_smells_1 (gf_X5_9_5 rfl) rfl rfl ?_
    refine r_iload_n 5 rfl 2 dX5_smells_4 rfl rfl ?_
    refine r_zald (f := m 22) 6 rfl s dX5_smells_5 (by decide) rfl rfl (by omega) (by decide) ?_
    rw [show (m 22) s = nI bn from hbn]
    refine r_if_eq 9 28 rfl dX5_smells_6 rfl (fun c6 => ?_) (fun c6 => ?_)
    · replace c6 : bn = 0 := (nI_eq (a := bn) (b := 0) (by omega) (by omega)).mp c6
      refine r_iconst 29 rfl 0 dX5_smells_28 rfl ?_
      refine r_zreturn rfl rfl dX5_smells_29 (Nat.le_of_ble_eq_true rfl) (Nat.le_of_ble_eq_true rfl) ?_
      exact k0 (fun w => by omega)
    · replace c6 : ¬ bn = 0 := fun q__ => c6 ((nI_eq (a := bn) (b := 0) (by omega) (by omega)).mpr q__)
      refine r_aload_n 10 rfl 1 dX5_smells_9 rfl rfl ?_
      refine r_aload_n 11 rfl 0 dX5_smells_10 rfl rfl ?_
      refine r_getf (v := .int ((m 21) 5)) (k := 5) 14 rfl dX5_smells_11 (gf_X5_42_5 rfl) rfl rfl ?_
      rw [show (m 21) 5 = nI hr from hhr]
      refine r_aload_n 15 rfl 0 dX5_smells_14 rfl rfl ?_
      refine r_getf (v := .int ((m 21) 4)) (k := 4) 18 rfl dX5_smells_15 (gf_X5_38_5 rfl) rfl rfl ?_
      rw [show (m 21) 4 = nI fr from hfr]
      refine q_U 21 0 0 rfl [.int (nI hr), .int (nI fr)] rfl dX5_smells_18 cl_X5_smells__X4_smellsAt (lk_X5_54 rfl) sm_X4_smellsAt im_X4_smellsAt cd_X4_smellsAt dx_X4_smellsAt im_X4_smellsAt (ci := 1) rfl sl_X1__X4_smellsAt (wd_dy hq hz) (Nat.le_of_ble_eq_true rfl) (fun _ _ => Nat.le_of_ble_eq_true rfl) rfl rfl (Nat.le_of_ble_eq_true rfl) (Nat.le_of_ble_eq_true rfl) ?_
      refine c_X4_smellsAt hf hh (fun hc => (k_i ?_)) (fun hc => (k_i ?_))
      · refine r_if_eq 24 28 rfl dX5_smells_21 rfl (fun q__ => absurd q__ (by decide)) (fun _ => ?_)
        refine r_iconst 25 rfl 1 dX5_smells_24 rfl ?_
        refine r_goto 29 dX5_smells_25 rfl ?_
        refine r_zreturn rfl rfl dX5_smells_29 (Nat.le_of_ble_eq_true rfl) (Nat.le_of_ble_eq_true rfl) ?_
        exact k1 ⟨by omega, by simp [so_at, hc]⟩
      · refine r_if_eq 24 28 rfl dX5_smells_21 rfl (fun _ => ?_) (fun q__ => absurd (by decide) q__)
        refine r_iconst 29 rfl 0 dX5_smells_28 rfl ?_
        refine r_zreturn rfl rfl dX5_smells_29 (Nat.le_of_ble_eq_true rfl) (Nat.le_of_ble_eq_true rfl) ?_
        exact k0 (fun w => by have w2 := w.2; simp [so_at] at w2; exact hc (by first | exact w2 | omega))
  · refine r_aload_n 1 rfl 0 dX5_smells_0 rfl rfl ?_
    refine r_getf (v := .ref 22) (k := 1) 4 rfl dX5_smells_1 (gf_X5_9_5 rfl) rfl rfl ?_
    refine r_iload_n 5 rfl 2 dX5_smells_4 rfl rfl ?_
    refine r_zald (f := m 22) 6 rfl s dX5_smells_5 (by decide) rfl rfl (by omega) (by decide) ?_
    rw [show (m 22) s = nI bn from hbn]
    refine r_if_eq 9 28 rfl dX5_smells_6 rfl (fun c6 => ?_) (fun c6 => ?_)
    · replace c6 : bn = 0 := (nI_eq (a := bn) (b := 0) (by omega) (by omega)).mp c6
      refine r_iconst 29 rfl 0 dX5_smells_28 rfl ?_
      refine r_zreturn rfl rfl dX5_smells_29 (Nat.le_of_ble_eq_true rfl) (Nat.le_of_ble_eq_true rfl) ?_
      exact k0 (fun w => by omega)
    · replace c6 : ¬ bn = 0 := fun q__ => c6 ((nI_eq (a := bn) (b := 0) (by omega) (by omega)).mpr q__)
      refine r_aload_n 10 rfl 1 dX5_smells_9 rfl rfl ?_
      refine r_aload_n 11 rfl 0 dX5_smells_10 rfl rfl ?_
      refine r_getf (v := .int ((m 21) 5)) (k := 5) 14 rfl dX5_smells_11 (gf_X5_42_5 rfl) rfl rfl ?_
      rw [show (m 21) 5 = nI hr from hhr]
      refine r_aload_n 15 rfl 0 dX5_smells_14 rfl rfl ?_
      refine r_getf (v := .int ((m 21) 4)) (k := 4) 18 rfl dX5_smells_15 (gf_X5_38_5 rfl) rfl rfl ?_
      rw [show (m 21) 4 = nI fr from hfr]
      refine q_U 21 0 0 rfl [.int (nI hr), .int (nI fr)] rfl dX5_smells_18 cl_X5_smells__X2_smellsAt (lk_X5_54 rfl) sm_X4_smellsAt im_X4_smellsAt cd_X4_smellsAt dx_X4_smellsAt im_X2_smellsAt (ci := 2) rfl sl_X2__X4_smellsAt (wd_dy hq hz) (Nat.le_of_ble_eq_true rfl) (fun _ _ => Nat.le_of_ble_eq_true rfl) rfl rfl (Nat.le_of_ble_eq_true rfl) (Nat.le_of_ble_eq_true rfl) ?_
      refine c_X2_smellsAt hf hh (fun hc => (k_i ?_)) (fun hc => (k_i ?_))
      · refine r_if_eq 24 28 rfl dX5_smells_21 rfl (fun q__ => absurd q__ (by decide)) (fun _ => ?_)
        refine r_iconst 25 rfl 1 dX5_smells_24 rfl ?_
        refine r_goto 29 dX5_smells_25 rfl ?_
        refine r_zreturn rfl rfl dX5_smells_29 (Nat.le_of_ble_eq_true rfl) (Nat.le_of_ble_eq_true rfl) ?_
        exact k1 ⟨by omega, by simp [so_at, hc.1, hc.2]⟩
      · refine r_if_eq 24 28 rfl dX5_smells_21 rfl (fun _ => ?_) (fun q__ => absurd (by decide) q__)
        refine r_iconst 29 rfl 0 dX5_smells_28 rfl ?_
        refine r_zreturn rfl rfl dX5_smells_29 (Nat.le_of_ble_eq_true rfl) (Nat.le_of_ble_eq_true rfl) ?_
        exact k0 (fun w => by have w2 := w.2; simp [so_at] at w2; exact hc (by first | exact w2 | omega))
  · refine r_aload_n 1 rfl 0 dX5_smells_0 rfl rfl ?_
    refine r_getf (v := .ref 22) (k := 1) 4 rfl dX5_smells_1 (gf_X5_9_5 rfl) rfl rfl ?_
    refine r_iload_n 5 rfl 2 dX5_smells_4 rfl rfl ?_
    refine r_zald (f := m 22) 6 rfl s dX5_smells_5 (by decide) rfl rfl (by omega) (by decide) ?_
    rw [show (m 22) s = nI bn from hbn]
    refine r_if_eq 9 28 rfl dX5_smells_6 rfl (fun c6 => ?_) (fun c6 => ?_)
    · replace c6 : bn = 0 := (nI_eq (a := bn) (b := 0) (by omega) (by omega)).mp c6
      refine r_iconst 29 rfl 0 dX5_smells_28 rfl ?_
      refine r_zreturn rfl rfl dX5_smells_29 (Nat.le_of_ble_eq_true rfl) (Nat.le_of_ble_eq_true rfl) ?_
      exact k0 (fun w => by omega)
    · replace c6 : ¬ bn = 0 := fun q__ => c6 ((nI_eq (a := bn) (b := 0) (by omega) (by omega)).mpr q__)
      refine r_aload_n 10 rfl 1 dX5_smells_9 rfl rfl ?_
      refine r_aload_n 11 rfl 0 dX5_smells_10 rfl rfl ?_
      refine r_getf (v := .int ((m 21) 5)) (k := 5) 14 rfl dX5_smells_11 (gf_X5_42_5 rfl) rfl rfl ?_
      rw [show (m 21) 5 = nI hr from hhr]
      refine r_aload_n 15 rfl 0 dX5_smells_14 rfl rfl ?_
      refine r_getf (v := .int ((m 21) 4)) (k := 4) 18 rfl dX5_smells_15 (gf_X5_38_5 rfl) rfl rfl ?_
      rw [show (m 21) 4 = nI fr from hfr]
      refine q_U 21 0 0 rfl [.int (nI hr), .int (nI fr)] rfl dX5_smells_18 cl_X5_smells__X4_smellsAt (lk_X5_54 rfl) sm_X4_smellsAt im_X4_smellsAt cd_X4_smellsAt dx_X4_smellsAt im_X4_smellsAt (ci := 6) rfl sl_X6__X4_smellsAt (wd_dy hq hz) (Nat.le_of_ble_eq_true rfl) (fun _ _ => Nat.le_of_ble_eq_true rfl) rfl rfl (Nat.le_of_ble_eq_true rfl) (Nat.le_of_ble_eq_true rfl) ?_
      refine c_X4_smellsAt hf hh (fun hc => (k_i ?_)) (fun hc => (k_i ?_))
      · refine r_if_eq 24 28 rfl dX5_smells_21 rfl (fun q__ => absurd q__ (by decide)) (fun _ => ?_)
        refine r_iconst 25 rfl 1 dX5_smells_24 rfl ?_
        refine r_goto 29 dX5_smells_25 rfl ?_
        refine r_zreturn rfl rfl dX5_smells_29 (Nat.le_of_ble_eq_true rfl) (Nat.le_of_ble_eq_true rfl) ?_
        exact k1 ⟨by omega, by simp [so_at, hc]⟩
      · refine r_if_eq 24 28 rfl dX5_smells_21 rfl (fun _ => ?_) (fun q__ => absurd (by decide) q__)
        refine r_iconst 29 rfl 0 dX5_smells_28 rfl ?_
        refine r_zreturn rfl rfl dX5_smells_29 (Nat.le_of_ble_eq_true rfl) (Nat.le_of_ble_eq_true rfl) ?_
        exact k0 (fun w => by have w2 := w.2; simp [so_at] at w2; exact hc (by first | exact w2 | omega))
  · refine r_aload_n 1 rfl 0 dX5_smells_0 rfl rfl ?_
    refine r_getf (v := .ref 22) (k := 1) 4 rfl dX5_smells_1 (gf_X5_9_5 rfl) rfl rfl ?_
    refine r_iload_n 5 rfl 2 dX5_smells_4 rfl rfl ?_
    refine r_zald (f := m 22) 6 rfl s dX5_smells_5 (by decide) rfl rfl (by omega) (by decide) ?_
    rw [show (m 22) s = nI bn from hbn]
    refine r_if_eq 9 28 rfl dX5_smells_6 rfl (fun c6 => ?_) (fun c6 => ?_)
    · replace c6 : bn = 0 := (nI_eq (a := bn) (b := 0) (by omega) (by omega)).mp c6
      refine r_iconst 29 rfl 0 dX5_smells_28 rfl ?_
      refine r_zreturn rfl rfl dX5_smells_29 (Nat.le_of_ble_eq_true rfl) (Nat.le_of_ble_eq_true rfl) ?_
      exact k0 (fun w => by omega)
    · replace c6 : ¬ bn = 0 := fun q__ => c6 ((nI_eq (a := bn) (b := 0) (by omega) (by omega)).mpr q__)
      refine r_aload_n 10 rfl 1 dX5_smells_9 rfl rfl ?_
      refine r_aload_n 11 rfl 0 dX5_smells_10 rfl rfl ?_
      refine r_getf (v := .int ((m 21) 5)) (k := 5) 14 rfl dX5_smells_11 (gf_X5_42_5 rfl) rfl rfl ?_
      rw [show (m 21) 5 = nI hr from hhr]
      refine r_aload_n 15 rfl 0 dX5_smells_14 rfl rfl ?_
      refine r_getf (v := .int ((m 21) 4)) (k := 4) 18 rfl dX5_smells_15 (gf_X5_38_5 rfl) rfl rfl ?_
      rw [show (m 21) 4 = nI fr from hfr]
      refine q_U 21 0 0 rfl [.int (nI hr), .int (nI fr)] rfl dX5_smells_18 cl_X5_smells__X8_smellsAt (lk_X5_54 rfl) sm_X4_smellsAt im_X4_smellsAt cd_X4_smellsAt dx_X4_smellsAt im_X8_smellsAt (ci := 8) rfl sl_X8__X4_smellsAt (wd_dy hq hz) (Nat.le_of_ble_eq_true rfl) (fun _ _ => Nat.le_of_ble_eq_true rfl) rfl rfl (Nat.le_of_ble_eq_true rfl) (Nat.le_of_ble_eq_true rfl) ?_
      refine c_X8_smellsAt hf hh (k_i ?_)
      refine r_if_eq 24 28 rfl dX5_smells_21 rfl (fun q__ => absurd q__ (by decide)) (fun _ => ?_)
      refine r_iconst 25 rfl 1 dX5_smells_24 rfl ?_
      refine r_goto 29 dX5_smells_25 rfl ?_
      refine r_zreturn rfl rfl dX5_smells_29 (Nat.le_of_ble_eq_true rfl) (Nat.le_of_ble_eq_true rfl) ?_
      exact k1 ⟨by omega, by simp [so_at]⟩

set_option maxHeartbeats 4000000 in
set_option maxRecDepth 20000 in
theorem lp_mingle {Q : am_P} {z : am_Z} {m : Nat → Nat → Int32} {n : Nat} {a mo : Nat → Nat} {s pa : Nat} (ha : ∀ j, j < 8 → m 32 j = nI (a j) ∧ a j ≤ 9) (hmo : ∀ j, j < 8 → m 29 j = nI (mo j) ∧ mo j ≤ 9) (k : ∀ m', (∀ j, j < 8 → m' 29 j = nI (if mo j < a j then a j else mo j)) → (∀ j, j < 8 → m' 30 j = if mo j < a j then nI s else m 30 j) → (∀ j, j < 8 → m' 31 j = if mo j < a j then nI pa else m 31 j) → ag [29, 30, 31] m m' → Q none (wd z m') n) : ∀ (d c : Nat), c + d = 8 → ∀ m', (∀ j, j < c → m' 29 j = nI (if mo j < a j then a j else mo j)) → (∀ j, j < c → m' 30 j = if mo j < a j then nI s else m 30 j) → (∀ j, j < c → m' 31 j = if mo j < a j then nI pa else m 31 j) → (∀ j, c ≤ j → j < 8 → m' 29 j = nI (mo j) ∧ m' 30 j = m 30 j ∧ m' 31 j = m 31 j) → ag [29, 30, 31] m m' → AW mX0_mingle Q 2 [some (.ref 28), some (.int (nI pa)), some (.int (nI s)), some (.int (nI c))] [] (wd z m') n 0 0 := by
  intro d
  induction d with
  | zero =>
    intro c hc m' h29 h30 h31 hr hag
    have hc : c = 8 := by omega
    subst hc
    refine r_iload_n 3 rfl 3 dX0_mingle_2 rfl rfl ?_
    refine r_bipush 5 rfl 8 dX0_mingle_3 (by decide) ?_
    refine r_icmp_ge 8 55 rfl dX0_mingle_5 rfl (fun _ => ?_) (fun q__ => absurd ((nI_leI (a := 8) (b := 8) (by omega) (by omega)).mpr (by omega)) q__)
    refine r_return rfl dX0_mingle_55 (Nat.le_of_ble_eq_true rfl) (Nat.le_of_ble_eq_true rfl) ?_
    exact k m' h29 h30 h31 hag
  | succ d ih =>
    intro c hc m' h29 h30 h31 hr hag
    have h32 : m' 32 = m 32 := hag 32 (by decide)
    have hac : m' 32 c = nI (a c) := by rw [h32]; exact (ha c (by omega)).1
    have hal := (ha c (by omega)).2
    have hml := (hmo c (by omega)).2
    have hrc := hr c (Nat.le_refl c) (by omega)
    refine r_iload_n 3 rfl 3 dX0_mingle_2 rfl rfl ?_
    refine r_bipush 5 rfl 8 dX0_mingle_3 (by decide) ?_
    refine r_icmp_ge 8 55 rfl dX0_mingle_5 rfl (fun q__ => absurd q__ (fun q__ => absurd ((nI_leI (a := 8) (b := c) (by omega) (by omega)).mp q__) (by omega))) (fun _ => ?_)
    refine r_aload_n 9 rfl 0 dX0_mingle_8 rfl rfl ?_
    refine r_getf (v := .ref 32) (k := 3) 12 rfl dX0_mingle_9 (gf_X0_21_0 rfl) rfl rfl ?_
    refine r_iload_n 13 rfl 3 dX0_mingle_12 rfl rfl ?_
    refine r_iald (f := m' 32) 14 rfl c dX0_mingle_13 rfl rfl (by omega) (by decide) ?_
    rw [show (m' 32) c = nI (a c) from hac]
    refine r_aload_n 15 rfl 0 dX0_mingle_14 rfl rfl ?_
    refine r_getf (v := .ref 29) (k := 0) 18 rfl dX0_mingle_15 (gf_X0_9_0 rfl) rfl rfl ?_
    refine r_iload_n 19 rfl 3 dX0_mingle_18 rfl rfl ?_
    refine r_iald (f := m' 29) 20 rfl c dX0_mingle_19 rfl rfl (by omega) (by decide) ?_
    rw [show (m' 29) c = nI (mo c) from hrc.1]
    refine r_icmp_le 23 49 rfl dX0_mingle_20 rfl (fun c20 => ?_) (fun c20 => ?_)
    · replace c20 : a c ≤ mo c := (nI_leI (a := (a c)) (b := (mo c)) (by omega) (by omega)).mp c20
      refine r_iinc 52 rfl (nI (c + 1)) [some (.ref 28), some (.int (nI pa)), some (.int (nI s)), some (.int (nI (c + 1)))] dX0_mingle_49 rfl (nI_1 _) (by decide) rfl ?_
      refine r_goto 2 dX0_mingle_52 rfl ?_
      refine ih (c + 1) (by omega) m' (fun j hj => ?_) (fun j hj => ?_) (fun j hj => ?_) (fun j h1 h2 => hr j (by omega) h2) hag
      · by_cases hjc : j = c
        · subst hjc; rw [if_neg (by omega)]; exact hrc.1
        · exact h29 j (by omega)
      · by_cases hjc : j = c
        · subst hjc; rw [if_neg (by omega)]; exact hrc.2.1
        · exact h30 j (by omega)
      · by_cases hjc : j = c
        · subst hjc; rw [if_neg (by omega)]; exact hrc.2.2
        · exact h31 j (by omega)
    · replace c20 : ¬ (a c) ≤ (mo c) := fun q__ => c20 ((nI_leI (a := (a c)) (b := (mo c)) (by omega) (by omega)).mpr q__)
      refine r_aload_n 24 rfl 0 dX0_mingle_23 rfl rfl ?_
      refine r_getf (v := .ref 29) (k := 0) 27 rfl dX0_mingle_24 (gf_X0_9_0 rfl) rfl rfl ?_
      refine r_iload_n 28 rfl 3 dX0_mingle_27 rfl rfl ?_
      refine r_aload_n 29 rfl 0 dX0_mingle_28 rfl rfl ?_
      refine r_getf (v := .ref 32) (k := 3) 32 rfl dX0_mingle_29 (gf_X0_21_0 rfl) rfl rfl ?_
      refine r_iload_n 33 rfl 3 dX0_mingle_32 rfl rfl ?_
      refine r_iald (f := m' 32) 34 rfl c dX0_mingle_33 rfl rfl (by omega) (by decide) ?_
      rw [show (m' 32) c = nI (a c) from hac]
      refine w_iast 35 rfl c (va_up m' 29 (upd (m' 29) c (nI (a c)))) dX0_mingle_34 (by decide) (by decide) (fun _ => rfl) rfl (by omega) (by decide) rfl ?_
      refine r_aload_n 36 rfl 0 dX0_mingle_35 rfl rfl ?_
      refine r_getf (v := .ref 30) (k := 1) 39 rfl dX0_mingle_36 (gf_X0_15_0 rfl) rfl rfl ?_
      refine r_iload_n 40 rfl 3 dX0_mingle_39 rfl rfl ?_
      refine r_iload_n 41 rfl 2 dX0_mingle_40 rfl rfl ?_
      refine w_iast 42 rfl c (va_up (va_up m' 29 (upd (m' 29) c (nI (a c)))) 30 (upd (m' 30) c (nI s))) dX0_mingle_41 (by decide) (by decide) (fun _ => rfl) rfl (by omega) (by decide) rfl ?_
      refine r_aload_n 43 rfl 0 dX0_mingle_42 rfl rfl ?_
      refine r_getf (v := .ref 31) (k := 2) 46 rfl dX0_mingle_43 (gf_X0_18_0 rfl) rfl rfl ?_
      refine r_iload_n 47 rfl 3 dX0_mingle_46 rfl rfl ?_
      refine r_iload_n 48 rfl 1 dX0_mingle_47 rfl rfl ?_
      refine w_iast 49 rfl c (va_up (va_up (va_up m' 29 (upd (m' 29) c (nI (a c)))) 30 (upd (m' 30) c (nI s))) 31 (upd (m' 31) c (nI pa))) dX0_mingle_48 (by decide) (by decide) (fun _ => rfl) rfl (by omega) (by decide) rfl ?_
      refine r_iinc 52 rfl (nI (c + 1)) [some (.ref 28), some (.int (nI pa)), some (.int (nI s)), some (.int (nI (c + 1)))] dX0_mingle_49 rfl (nI_1 _) (by decide) rfl ?_
      refine r_goto 2 dX0_mingle_52 rfl ?_
      refine ih (c + 1) (by omega) _ (fun j hj => ?_) (fun j hj => ?_) (fun j hj => ?_) (fun j h1 h2 => ?_) (ag_up (ag_up (ag_up hag (by decide)) (by decide)) (by decide))
      · show upd (m' 29) c (nI (a c)) j = _
        unfold upd
        by_cases hjc : j = c
        · subst hjc; rw [if_pos rfl, if_pos (by omega)]
        · rw [if_neg hjc]; exact h29 j (by omega)
      · show upd (m' 30) c (nI s) j = _
        unfold upd
        by_cases hjc : j = c
        · subst hjc; rw [if_pos rfl, if_pos (by omega)]
        · rw [if_neg hjc]; exact h30 j (by omega)
      · show upd (m' 31) c (nI pa) j = _
        unfold upd
        by_cases hjc : j = c
        · subst hjc; rw [if_pos rfl, if_pos (by omega)]
        · rw [if_neg hjc]; exact h31 j (by omega)
      · have hjc : j ≠ c := by omega
        refine ⟨?_, ?_, ?_⟩
        · show upd (m' 29) c (nI (a c)) j = _
          unfold upd
          rw [if_neg hjc]
          exact (hr j (by omega) h2).1
        · show upd (m' 30) c (nI s) j = _
          unfold upd
          rw [if_neg hjc]
          exact (hr j (by omega) h2).2.1
        · show upd (m' 31) c (nI pa) j = _
          unfold upd
          rw [if_neg hjc]
          exact (hr j (by omega) h2).2.2
set_option maxHeartbeats 4000000 in
set_option maxRecDepth 20000 in
theorem c_mingle {Q : am_P} {z : am_Z} {m : Nat → Nat → Int32} {n : Nat} {a mo : Nat → Nat} {s pa : Nat} (ha : ∀ j, j < 8 → m 32 j = nI (a j) ∧ a j ≤ 9) (hmo : ∀ j, j < 8 → m 29 j = nI (mo j) ∧ mo j ≤ 9) (k : ∀ m', (∀ j, j < 8 → m' 29 j = nI (if mo j < a j then a j else mo j)) → (∀ j, j < 8 → m' 30 j = if mo j < a j then nI s else m 30 j) → (∀ j, j < 8 → m' 31 j = if mo j < a j then nI pa else m 31 j) → ag [29, 30, 31] m m' → Q none (wd z m') n) : AW mX0_mingle Q 0 (am_ent (am_l mX0_mingle) [.ref 28, .int (nI pa), .int (nI s)]) [] (wd z m) n 0 0 := by
  show AW _ _ 0 [some (.ref 28), some (.int (nI pa)), some (.int (nI s)), none] [] _ _ 0 0
  refine r_iconst 1 rfl 0 dX0_mingle_0 rfl ?_
  refine r_istore_n 2 rfl 3 [some (.ref 28), some (.int (nI pa)), some (.int (nI s)), some (.int 0)] dX0_mingle_1 rfl (by decide) rfl ?_
  exact lp_mingle ha hmo k 8 0 rfl m (fun j hj => absurd hj (Nat.not_lt_zero j)) (fun j hj => absurd hj (Nat.not_lt_zero j)) (fun j hj => absurd hj (Nat.not_lt_zero j)) (fun j _ h2 => ⟨(hmo j h2).1, rfl, rfl⟩) (ag_r _ _)
