/-! the whole state, class and model, by one table of numbers D: 0 ground, 1 kind, 2 parish, 3 cell, 4 strength, 5 burns, 6 burnt of each source; 7: 0 fade, 1 how many sources, 2 wind, 3 hour, 4 frost -/
theorem sp_b0 : sp_b 0 = no_b := by
  funext t
  unfold sp_b no_b
  have e : (0 : Int32) >>> (nI t &&& 31) = 0 := by simp
  rw [e]
  decide
def C9 (z : am_Z) (m : Nat → Nat → Int32) (D : Nat → Nat → Nat) : Prop := (∀ j, j < 8 → m 5 j = nI (D 0 j) ∧ D 0 j ≤ 2) ∧ m 4 2 = nI (D 7 0) ∧ D 7 0 ≤ 3 ∧ (0 < D 7 1 → 1 ≤ D 7 0) ∧ m 7 0 = nI (D 7 1) ∧ D 7 1 ≤ 6 ∧ SD z (D 7 1) (D 1) (D 2) (D 3) (D 4) ∧ SB m 7 (D 7 1) (D 5) (D 6) ∧ m 7 3 = nI (D 7 2) ∧ D 7 2 ≤ 4 ∧ m 7 4 = nI (D 7 4) ∧ D 7 4 ≤ 1 ∧ m 7 5 = nI (D 7 3) ∧ D 7 3 < 2 ^ 30
def C10 (m : Nat → Nat → Int32) (D : Nat → Nat → Nat) : Prop := (∀ j, j < 8 → m 39 j = nI (D 0 j) ∧ D 0 j ≤ 2) ∧ m 37 2 = nI (D 7 0) ∧ D 7 0 ≤ 3 ∧ (0 < D 7 1 → 1 ≤ D 7 0) ∧ m 37 10 = nI (D 7 1) ∧ D 7 1 ≤ 7 ∧ MR m (D 7 1) (D 1) (D 2) (D 3) (D 4) (D 5) (D 6) ∧ m 37 3 = nI (D 7 2) ∧ D 7 2 ≤ 4 ∧ m 37 4 = nI (D 7 4) ∧ D 7 4 ≤ 1 ∧ m 37 5 = nI (D 7 3) ∧ D 7 3 < 2 ^ 30
/-- what there is of each source in each cell -/
def AM (D : Nat → Nat → Nat) : Nat → Nat → Nat := so_am (D 0) no_b (D 7 0) (D 7 2) (D 7 3) (D 7 4) (D 1) (D 3) (D 4) (D 5) (D 6)
abbrev MO (D : Nat → Nat → Nat) : Nat → Nat := st_mo (AM D) (D 7 1)
abbrev BY (D : Nat → Nat → Nat) : Nat → Int32 := st_by (AM D) (D 7 1)
abbrev WH (D : Nat → Nat → Nat) : Nat → Int32 := st_wh (AM D) (D 2) (D 7 1)
def AIR (m : Nat → Nat → Int32) (D : Nat → Nat → Nat) : Prop := ∀ j, j < 8 → m 29 j = nI (MO D j) ∧ m 30 j = BY D j ∧ m 31 j = WH D j
def MIR (m : Nat → Nat → Int32) (D : Nat → Nat → Nat) : Prop := ∀ j, j < 8 → m 45 j = nI (MO D j) ∧ m 44 j = BY D j
theorem C9_ag {S : List Nat} {z : am_Z} {m m' : Nat → Nat → Int32} {D : Nat → Nat → Nat} (h : C9 z m D) (hag : ag S m m') (hS : 4 ∉ S ∧ 5 ∉ S ∧ 7 ∉ S ∧ 8 ∉ S ∧ 9 ∉ S) : C9 z m' D := by
  unfold C9 SB at *
  rw [hag 4 hS.1, hag 5 hS.2.1, hag 7 hS.2.2.1, hag 8 hS.2.2.2.1, hag 9 hS.2.2.2.2]
  exact h
theorem C10_ag {S : List Nat} {m m' : Nat → Nat → Int32} {D : Nat → Nat → Nat} (h : C10 m D) (hag : ag S m m') (hS : 37 ∉ S ∧ 39 ∉ S ∧ 42 ∉ S) : C10 m' D := by
  unfold C10 MR at *
  rw [hag 37 hS.1, hag 39 hS.2.1, hag 42 hS.2.2]
  exact h
theorem AIR_ag {S : List Nat} {m m' : Nat → Nat → Int32} {D : Nat → Nat → Nat} (h : AIR m D) (hag : ag S m m') (hS : 29 ∉ S ∧ 30 ∉ S ∧ 31 ∉ S) : AIR m' D := by
  unfold AIR at *
  rw [hag 29 hS.1, hag 30 hS.2.1, hag 31 hS.2.2]
  exact h
theorem MIR_ag {S : List Nat} {m m' : Nat → Nat → Int32} {D : Nat → Nat → Nat} (h : MIR m D) (hag : ag S m m') (hS : 44 ∉ S ∧ 45 ∉ S) : MIR m' D := by
  unfold MIR at *
  rw [hag 44 hS.1, hag 45 hS.2]
  exact h

set_option maxHeartbeats 4000000 in
set_option maxRecDepth 20000 in
theorem c_isThere_t {Q : am_P} {z : am_Z} {m : Nat → Nat → Int32} {n : Nat} {fd : Nat} (hfd : m 4 2 = nI fd) (hf1 : 1 ≤ fd) (hf3 : fd ≤ 3) (k : Q (some (.int 1)) (wd z m) n) : AW mX7_isThere Q 0 (am_ent (am_l mX7_isThere) [.ref 4]) [] (wd z m) n 0 0 := by
  show AW _ _ 0 [some (.ref 4)] [] _ _ 0 0
  refine r_aload_n 1 rfl 0 dX7_isThere_0 rfl rfl ?_
  refine r_getf (v := .int ((m 4) 2)) (k := 2) 4 rfl dX7_isThere_1 (gf_X7_15_7 rfl) rfl rfl ?_
  rw [show (m 4) 2 = nI fd from hfd]
  refine r_if_le 7 11 rfl dX7_isThere_4 rfl (fun q__ => absurd q__ (fun q__ => absurd ((nI_leI (a := fd) (b := 0) (by omega) (by omega)).mp q__) (by omega))) (fun _ => ?_)
  refine r_iconst 8 rfl 1 dX7_isThere_7 rfl ?_
  refine r_goto 12 dX7_isThere_8 rfl ?_
  refine r_zreturn rfl rfl dX7_isThere_12 (Nat.le_of_ble_eq_true rfl) (Nat.le_of_ble_eq_true rfl) ?_
  exact k

set_option maxHeartbeats 4000000 in
set_option maxRecDepth 20000 in
theorem c_isThere_f {Q : am_P} {z : am_Z} {m : Nat → Nat → Int32} {n : Nat} (hfd : m 4 2 = nI 0) (k : Q (some (.int 0)) (wd z m) n) : AW mX7_isThere Q 0 (am_ent (am_l mX7_isThere) [.ref 4]) [] (wd z m) n 0 0 := by
  show AW _ _ 0 [some (.ref 4)] [] _ _ 0 0
  refine r_aload_n 1 rfl 0 dX7_isThere_0 rfl rfl ?_
  refine r_getf (v := .int ((m 4) 2)) (k := 2) 4 rfl dX7_isThere_1 (gf_X7_15_7 rfl) rfl rfl ?_
  rw [show (m 4) 2 = nI 0 from hfd]
  refine r_if_le 7 11 rfl dX7_isThere_4 rfl (fun _ => ?_) (fun q__ => absurd ((nI_leI (a := 0) (b := 0) (by omega) (by omega)).mpr (by omega)) q__)
  refine r_iconst 12 rfl 0 dX7_isThere_11 rfl ?_
  refine r_zreturn rfl rfl dX7_isThere_12 (Nat.le_of_ble_eq_true rfl) (Nat.le_of_ble_eq_true rfl) ?_
  exact k

set_option maxHeartbeats 4000000 in
set_option maxRecDepth 20000 in
theorem c_bit_0 {Q : am_P} {h : Nat → am_E} {n : Nat}  (k : Q (some (.int 0)) h n) : AW mX9_bit Q 0 (am_ent (am_l mX9_bit) [.int 0]) [] (h) n 0 0 := by
  show AW _ _ 0 [some (.int 0)] [] _ _ 0 0
  refine r_iload_n 1 rfl 0 dX9_bit_0 rfl rfl ?_
  refine r_if_eq 4 8 rfl dX9_bit_1 rfl (fun _ => ?_) (fun q__ => absurd (by decide) q__)
  refine r_iconst 9 rfl 0 dX9_bit_8 rfl ?_
  refine r_ireturn rfl dX9_bit_9 (Nat.le_of_ble_eq_true rfl) (Nat.le_of_ble_eq_true rfl) ?_
  exact k

set_option maxHeartbeats 4000000 in
set_option maxRecDepth 20000 in
theorem c_bit_1 {Q : am_P} {h : Nat → am_E} {n : Nat}  (k : Q (some (.int 1)) h n) : AW mX9_bit Q 0 (am_ent (am_l mX9_bit) [.int 1]) [] (h) n 0 0 := by
  show AW _ _ 0 [some (.int 1)] [] _ _ 0 0
  refine r_iload_n 1 rfl 0 dX9_bit_0 rfl rfl ?_
  refine r_if_eq 4 8 rfl dX9_bit_1 rfl (fun q__ => absurd q__ (by decide)) (fun _ => ?_)
  refine r_iconst 5 rfl 1 dX9_bit_4 rfl ?_
  refine r_goto 9 dX9_bit_5 rfl ?_
  refine r_ireturn rfl dX9_bit_9 (Nat.le_of_ble_eq_true rfl) (Nat.le_of_ble_eq_true rfl) ?_
  exact k

theorem c_bit {Q : am_P} {h : Nat → am_E} {n : Nat} {b : Nat} (hb : b ≤ 1) (k : Q (some (.int (nI b))) h n) : AW mX9_bit Q 0 (am_ent (am_l mX9_bit) [.int (nI b)]) [] h n 0 0 := by
  rcases (show b = 0 ∨ b = 1 by omega) with rfl | rfl
  · exact c_bit_0 k
  · exact c_bit_1 k

set_option maxHeartbeats 4000000 in
set_option maxRecDepth 20000 in
theorem c_is01_t {Q : am_P} {h : Nat → am_E} {n : Nat} {w : Nat} (hw : w ≤ 1) (k : Q (some (.int 1)) h n) : AW mX9_isZeroOrOne Q 0 (am_ent (am_l mX9_isZeroOrOne) [.int (nI w)]) [] (h) n 0 0 := by
  show AW _ _ 0 [some (.int (nI w))] [] _ _ 0 0
  refine r_iload_n 1 rfl 0 dX9_isZeroOrOne_0 rfl rfl ?_
  refine r_if_eq 4 9 rfl dX9_isZeroOrOne_1 rfl (fun c1 => ?_) (fun c1 => ?_)
  · replace c1 : w = 0 := (nI_eq (a := w) (b := 0) (by omega) (by omega)).mp c1
    refine r_iconst 10 rfl 1 dX9_isZeroOrOne_9 rfl ?_
    refine r_goto 14 dX9_isZeroOrOne_10 rfl ?_
    refine r_zreturn rfl rfl dX9_isZeroOrOne_14 (Nat.le_of_ble_eq_true rfl) (Nat.le_of_ble_eq_true rfl) ?_
    exact k
  · replace c1 : ¬ w = 0 := fun q__ => c1 ((nI_eq (a := w) (b := 0) (by omega) (by omega)).mpr q__)
    refine r_iload_n 5 rfl 0 dX9_isZeroOrOne_4 rfl rfl ?_
    refine r_iconst 6 rfl 1 dX9_isZeroOrOne_5 rfl ?_
    refine r_icmp_ne 9 13 rfl dX9_isZeroOrOne_6 rfl (fun c6 => ?_) (fun c6 => ?_)
    · replace c6 : ¬ w = 1 := fun q__ => c6 ((nI_eq (a := w) (b := 1) (by omega) (by omega)).mpr q__)
      exfalso; omega
    · replace c6 : w = 1 := (nI_eq (a := w) (b := 1) (by omega) (by omega)).mp c6
      refine r_iconst 10 rfl 1 dX9_isZeroOrOne_9 rfl ?_
      refine r_goto 14 dX9_isZeroOrOne_10 rfl ?_
      refine r_zreturn rfl rfl dX9_isZeroOrOne_14 (Nat.le_of_ble_eq_true rfl) (Nat.le_of_ble_eq_true rfl) ?_
      exact k

set_option maxHeartbeats 4000000 in
set_option maxRecDepth 20000 in
theorem c_is01_f {Q : am_P} {h : Nat → am_E} {n : Nat} {w : Int32} (hw : w.toInt < 0 ∨ 1 < w.toInt) (k : Q (some (.int 0)) h n) : AW mX9_isZeroOrOne Q 0 (am_ent (am_l mX9_isZeroOrOne) [.int w]) [] (h) n 0 0 := by
  show AW _ _ 0 [some (.int w)] [] _ _ 0 0
  refine r_iload_n 1 rfl 0 dX9_isZeroOrOne_0 rfl rfl ?_
  refine r_if_eq 4 9 rfl dX9_isZeroOrOne_1 rfl (fun c1 => ?_) (fun c1 => ?_)
  · replace c1 : w.toInt = (0 : Int) := Int32.toInt_inj.symm.mp c1
    exfalso; omega
  · replace c1 : ¬ w.toInt = (0 : Int) := fun q__ => c1 (Int32.toInt_inj.symm.mpr q__)
    refine r_iload_n 5 rfl 0 dX9_isZeroOrOne_4 rfl rfl ?_
    refine r_iconst 6 rfl 1 dX9_isZeroOrOne_5 rfl ?_
    refine r_icmp_ne 9 13 rfl dX9_isZeroOrOne_6 rfl (fun c6 => ?_) (fun c6 => ?_)
    · replace c6 : ¬ w.toInt = (1 : Int) := fun q__ => c6 (Int32.toInt_inj.symm.mpr q__)
      refine r_iconst 14 rfl 0 dX9_isZeroOrOne_13 rfl ?_
      refine r_zreturn rfl rfl dX9_isZeroOrOne_14 (Nat.le_of_ble_eq_true rfl) (Nat.le_of_ble_eq_true rfl) ?_
      exact k
    · replace c6 : w.toInt = (1 : Int) := Int32.toInt_inj.symm.mp c6
      exfalso; omega

set_option maxHeartbeats 4000000 in
set_option maxRecDepth 20000 in
theorem c_isCell_t {Q : am_P} {z : am_Z} {m : Nat → Nat → Int32} {n : Nat} {c : Nat} (hc : c < 8) {fd : Nat} (hfd : m 4 2 = nI fd) (hf1 : 1 ≤ fd) (hf3 : fd ≤ 3) (k : Q (some (.int 1)) (wd z m) n) : AW mX9_isCell Q 0 (am_ent (am_l mX9_isCell) [.ref 1, .int (nI c)]) [] (wd z m) n 0 0 := by
  show AW _ _ 0 [some (.ref 1), some (.int (nI c))] [] _ _ 0 0
  refine r_aload_n 1 rfl 0 dX9_isCell_0 rfl rfl ?_
  refine r_getf (v := .ref 4) (k := 1) 4 rfl dX9_isCell_1 (gf_X9_19_9 rfl) rfl rfl ?_
  refine q_V 7 0 0 rfl [] rfl dX9_isCell_4 cl_X9_isCell__X7_isThere (lk_X9_171 rfl) im_X7_isThere (ci := 7) rfl sl_X7__X7_isThere rfl (Nat.le_of_ble_eq_true rfl) (fun _ _ => Nat.le_of_ble_eq_true rfl) rfl rfl (Nat.le_of_ble_eq_true rfl) (Nat.le_of_ble_eq_true rfl) ?_
  refine c_isThere_t hfd hf1 hf3 (k_i ?_)
  refine r_if_eq 10 24 rfl dX9_isCell_7 rfl (fun q__ => absurd q__ (by decide)) (fun _ => ?_)
  refine r_iload_n 11 rfl 1 dX9_isCell_10 rfl rfl ?_
  refine r_if_lt 14 24 rfl dX9_isCell_11 rfl (fun q__ => absurd q__ (fun q__ => absurd ((nI_ltI (a := c) (b := 0) (by omega) (by omega)).mp q__) (by omega))) (fun _ => ?_)
  refine r_iload_n 15 rfl 1 dX9_isCell_14 rfl rfl ?_
  refine r_bipush 17 rfl 8 dX9_isCell_15 (by decide) ?_
  refine r_icmp_ge 20 24 rfl dX9_isCell_17 rfl (fun q__ => absurd q__ (fun q__ => absurd ((nI_leI (a := 8) (b := c) (by omega) (by omega)).mp q__) (by omega))) (fun _ => ?_)
  refine r_iconst 21 rfl 1 dX9_isCell_20 rfl ?_
  refine r_goto 25 dX9_isCell_21 rfl ?_
  refine r_zreturn rfl rfl dX9_isCell_25 (Nat.le_of_ble_eq_true rfl) (Nat.le_of_ble_eq_true rfl) ?_
  exact k

set_option maxHeartbeats 4000000 in
set_option maxRecDepth 20000 in
theorem c_isCell_f1 {Q : am_P} {z : am_Z} {m : Nat → Nat → Int32} {n : Nat} {x : Int32} (hx : x.toInt < 0 ∨ 8 ≤ x.toInt) {fd : Nat} (hfd : m 4 2 = nI fd) (hf1 : 1 ≤ fd) (hf3 : fd ≤ 3) (k : Q (some (.int 0)) (wd z m) n) : AW mX9_isCell Q 0 (am_ent (am_l mX9_isCell) [.ref 1, .int x]) [] (wd z m) n 0 0 := by
  show AW _ _ 0 [some (.ref 1), some (.int x)] [] _ _ 0 0
  refine r_aload_n 1 rfl 0 dX9_isCell_0 rfl rfl ?_
  refine r_getf (v := .ref 4) (k := 1) 4 rfl dX9_isCell_1 (gf_X9_19_9 rfl) rfl rfl ?_
  refine q_V 7 0 0 rfl [] rfl dX9_isCell_4 cl_X9_isCell__X7_isThere (lk_X9_171 rfl) im_X7_isThere (ci := 7) rfl sl_X7__X7_isThere rfl (Nat.le_of_ble_eq_true rfl) (fun _ _ => Nat.le_of_ble_eq_true rfl) rfl rfl (Nat.le_of_ble_eq_true rfl) (Nat.le_of_ble_eq_true rfl) ?_
  refine c_isThere_t hfd hf1 hf3 (k_i ?_)
  refine r_if_eq 10 24 rfl dX9_isCell_7 rfl (fun q__ => absurd q__ (by decide)) (fun _ => ?_)
  refine r_iload_n 11 rfl 1 dX9_isCell_10 rfl rfl ?_
  refine r_if_lt 14 24 rfl dX9_isCell_11 rfl (fun c11 => ?_) (fun c11 => ?_)
  · replace c11 : x.toInt < (0 : Int) := Int32.lt_iff_toInt_lt.mp c11
    refine r_iconst 25 rfl 0 dX9_isCell_24 rfl ?_
    refine r_zreturn rfl rfl dX9_isCell_25 (Nat.le_of_ble_eq_true rfl) (Nat.le_of_ble_eq_true rfl) ?_
    exact k
  · replace c11 : ¬ x.toInt < (0 : Int) := fun q__ => c11 (Int32.lt_iff_toInt_lt.mpr q__)
    refine r_iload_n 15 rfl 1 dX9_isCell_14 rfl rfl ?_
    refine r_bipush 17 rfl 8 dX9_isCell_15 (by decide) ?_
    refine r_icmp_ge 20 24 rfl dX9_isCell_17 rfl (fun c17 => ?_) (fun c17 => ?_)
    · replace c17 : (8 : Int) ≤ x.toInt := Int32.le_iff_toInt_le.mp c17
      refine r_iconst 25 rfl 0 dX9_isCell_24 rfl ?_
      refine r_zreturn rfl rfl dX9_isCell_25 (Nat.le_of_ble_eq_true rfl) (Nat.le_of_ble_eq_true rfl) ?_
      exact k
    · replace c17 : ¬ (8 : Int) ≤ x.toInt := fun q__ => c17 (Int32.le_iff_toInt_le.mpr q__)
      exfalso; omega

set_option maxHeartbeats 4000000 in
set_option maxRecDepth 20000 in
theorem c_isCell_f0 {Q : am_P} {z : am_Z} {m : Nat → Nat → Int32} {n : Nat} {x : Int32} (hfd : m 4 2 = nI 0) (k : Q (some (.int 0)) (wd z m) n) : AW mX9_isCell Q 0 (am_ent (am_l mX9_isCell) [.ref 1, .int x]) [] (wd z m) n 0 0 := by
  show AW _ _ 0 [some (.ref 1), some (.int x)] [] _ _ 0 0
  refine r_aload_n 1 rfl 0 dX9_isCell_0 rfl rfl ?_
  refine r_getf (v := .ref 4) (k := 1) 4 rfl dX9_isCell_1 (gf_X9_19_9 rfl) rfl rfl ?_
  refine q_V 7 0 0 rfl [] rfl dX9_isCell_4 cl_X9_isCell__X7_isThere (lk_X9_171 rfl) im_X7_isThere (ci := 7) rfl sl_X7__X7_isThere rfl (Nat.le_of_ble_eq_true rfl) (fun _ _ => Nat.le_of_ble_eq_true rfl) rfl rfl (Nat.le_of_ble_eq_true rfl) (Nat.le_of_ble_eq_true rfl) ?_
  refine c_isThere_f hfd (k_i ?_)
  refine r_if_eq 10 24 rfl dX9_isCell_7 rfl (fun _ => ?_) (fun q__ => absurd (by decide) q__)
  refine r_iconst 25 rfl 0 dX9_isCell_24 rfl ?_
  refine r_zreturn rfl rfl dX9_isCell_25 (Nat.le_of_ble_eq_true rfl) (Nat.le_of_ble_eq_true rfl) ?_
  exact k

theorem c_isCell_f {Q : am_P} {z : am_Z} {m : Nat → Nat → Int32} {n : Nat} {x : Int32} {fd : Nat} (hfd : m 4 2 = nI fd) (hf3 : fd ≤ 3) (hx : fd = 0 ∨ x.toInt < 0 ∨ 8 ≤ x.toInt) (k : Q (some (.int 0)) (wd z m) n) : AW mX9_isCell Q 0 (am_ent (am_l mX9_isCell) [.ref 1, .int x]) [] (wd z m) n 0 0 := by
  by_cases h : fd = 0
  · subst h
    exact c_isCell_f0 hfd k
  · exact c_isCell_f1 (by omega) hfd (by omega) hf3 k

set_option maxHeartbeats 4000000 in
set_option maxRecDepth 20000 in
theorem c_lacks_f {Q : am_P} {z : am_Z} {m : Nat → Nat → Int32} {n : Nat} {fd : Nat} (hfd : m 37 2 = nI fd) (hf1 : 1 ≤ fd) (hf3 : fd ≤ 3) (k : Q (some (.int 0)) (wd z m) n) : AW mX10_lacks Q 0 (am_ent (am_l mX10_lacks) [.ref 37]) [] (wd z m) n 0 0 := by
  show AW _ _ 0 [some (.ref 37)] [] _ _ 0 0
  refine r_aload_n 1 rfl 0 dX10_lacks_0 rfl rfl ?_
  refine r_getf (v := .int ((m 37) 2)) (k := 2) 4 rfl dX10_lacks_1 (gf_X10_83_10 rfl) rfl rfl ?_
  rw [show (m 37) 2 = nI fd from hfd]
  refine r_if_ne 7 11 rfl dX10_lacks_4 rfl (fun _ => ?_) (fun q__ => absurd q__ (fun q__ => absurd ((nI_eq (a := fd) (b := 0) (by omega) (by omega)).mp q__) (by omega)))
  refine r_iconst 12 rfl 0 dX10_lacks_11 rfl ?_
  refine r_zreturn rfl rfl dX10_lacks_12 (Nat.le_of_ble_eq_true rfl) (Nat.le_of_ble_eq_true rfl) ?_
  exact k

set_option maxHeartbeats 4000000 in
set_option maxRecDepth 20000 in
theorem c_lacks_t {Q : am_P} {z : am_Z} {m : Nat → Nat → Int32} {n : Nat} (hfd : m 37 2 = nI 0) (k : Q (some (.int 1)) (wd z m) n) : AW mX10_lacks Q 0 (am_ent (am_l mX10_lacks) [.ref 37]) [] (wd z m) n 0 0 := by
  show AW _ _ 0 [some (.ref 37)] [] _ _ 0 0
  refine r_aload_n 1 rfl 0 dX10_lacks_0 rfl rfl ?_
  refine r_getf (v := .int ((m 37) 2)) (k := 2) 4 rfl dX10_lacks_1 (gf_X10_83_10 rfl) rfl rfl ?_
  rw [show (m 37) 2 = nI 0 from hfd]
  refine r_if_ne 7 11 rfl dX10_lacks_4 rfl (fun q__ => absurd ((nI_eq (a := 0) (b := 0) (by omega) (by omega)).mpr (by omega)) q__) (fun _ => ?_)
  refine r_iconst 8 rfl 1 dX10_lacks_7 rfl ?_
  refine r_goto 12 dX10_lacks_8 rfl ?_
  refine r_zreturn rfl rfl dX10_lacks_12 (Nat.le_of_ble_eq_true rfl) (Nat.le_of_ble_eq_true rfl) ?_
  exact k

set_option maxHeartbeats 4000000 in
set_option maxRecDepth 20000 in
theorem c10_isCell_t {Q : am_P} {z : am_Z} {m : Nat → Nat → Int32} {n : Nat} {c : Nat} (hc : c < 8) {fd : Nat} (hfd : m 37 2 = nI fd) (hf1 : 1 ≤ fd) (hf3 : fd ≤ 3) (k : Q (some (.int 1)) (wd z m) n) : AW mX10_isCell Q 0 (am_ent (am_l mX10_isCell) [.ref 37, .int (nI c)]) [] (wd z m) n 0 0 := by
  show AW _ _ 0 [some (.ref 37), some (.int (nI c))] [] _ _ 0 0
  refine r_iload_n 1 rfl 1 dX10_isCell_0 rfl rfl ?_
  refine r_i2l 2 rfl dX10_isCell_1 ?_
  refine r_lconst 3 rfl 0 dX10_isCell_2 rfl ?_
  refine r_ldc2 6 rfl 7 dX10_isCell_3 (cn_X10_107 rfl) ?_
  refine q_S 9 0 0 rfl [.long ((nI c).toInt64), .long 0, .long 7] rfl dX10_isCell_6 cl_X10_isCell__X10_in (lk_X10_64 rfl) st_X10_in (Nat.le_of_ble_eq_true rfl) (fun _ _ => Nat.le_of_ble_eq_true rfl) rfl rfl (Nat.le_of_ble_eq_true rfl) (Nat.le_of_ble_eq_true rfl) ?_
  refine c_in_t (show (0 : Int) ≤ (nI c).toInt64.toInt by rw [Int32.toInt_toInt64, nI_toInt (by omega)]; omega) (show (nI c).toInt64.toInt ≤ (7 : Int) by rw [Int32.toInt_toInt64, nI_toInt (by omega)]; omega) (k_i ?_)
  refine r_if_eq 12 23 rfl dX10_isCell_9 rfl (fun q__ => absurd q__ (by decide)) (fun _ => ?_)
  refine r_aload_n 13 rfl 0 dX10_isCell_12 rfl rfl ?_
  refine q_V 16 0 0 rfl [] rfl dX10_isCell_13 cl_X10_isCell__X10_lacks (lk_X10_109 rfl) im_X10_lacks (ci := 10) rfl sl_X10__X10_lacks rfl (Nat.le_of_ble_eq_true rfl) (fun _ _ => Nat.le_of_ble_eq_true rfl) rfl rfl (Nat.le_of_ble_eq_true rfl) (Nat.le_of_ble_eq_true rfl) ?_
  refine c_lacks_f hfd hf1 hf3 (k_i ?_)
  refine r_if_ne 19 23 rfl dX10_isCell_16 rfl (fun q__ => absurd (by decide) q__) (fun _ => ?_)
  refine r_iconst 20 rfl 1 dX10_isCell_19 rfl ?_
  refine r_goto 24 dX10_isCell_20 rfl ?_
  refine r_zreturn rfl rfl dX10_isCell_24 (Nat.le_of_ble_eq_true rfl) (Nat.le_of_ble_eq_true rfl) ?_
  exact k

set_option maxHeartbeats 4000000 in
set_option maxRecDepth 20000 in
theorem c10_isCell_f1 {Q : am_P} {z : am_Z} {m : Nat → Nat → Int32} {n : Nat} {x : Int32} (hx : x.toInt < 0 ∨ 8 ≤ x.toInt) (k : Q (some (.int 0)) (wd z m) n) : AW mX10_isCell Q 0 (am_ent (am_l mX10_isCell) [.ref 37, .int x]) [] (wd z m) n 0 0 := by
  show AW _ _ 0 [some (.ref 37), some (.int x)] [] _ _ 0 0
  refine r_iload_n 1 rfl 1 dX10_isCell_0 rfl rfl ?_
  refine r_i2l 2 rfl dX10_isCell_1 ?_
  refine r_lconst 3 rfl 0 dX10_isCell_2 rfl ?_
  refine r_ldc2 6 rfl 7 dX10_isCell_3 (cn_X10_107 rfl) ?_
  refine q_S 9 0 0 rfl [.long x.toInt64, .long 0, .long 7] rfl dX10_isCell_6 cl_X10_isCell__X10_in (lk_X10_64 rfl) st_X10_in (Nat.le_of_ble_eq_true rfl) (fun _ _ => Nat.le_of_ble_eq_true rfl) rfl rfl (Nat.le_of_ble_eq_true rfl) (Nat.le_of_ble_eq_true rfl) ?_
  refine c_in_f (show x.toInt64.toInt < (0 : Int) ∨ (7 : Int) < x.toInt64.toInt by rw [Int32.toInt_toInt64]; omega) (k_i ?_)
  refine r_if_eq 12 23 rfl dX10_isCell_9 rfl (fun _ => ?_) (fun q__ => absurd (by decide) q__)
  refine r_iconst 24 rfl 0 dX10_isCell_23 rfl ?_
  refine r_zreturn rfl rfl dX10_isCell_24 (Nat.le_of_ble_eq_true rfl) (Nat.le_of_ble_eq_true rfl) ?_
  exact k

set_option maxHeartbeats 4000000 in
set_option maxRecDepth 20000 in
theorem c10_isCell_f0 {Q : am_P} {z : am_Z} {m : Nat → Nat → Int32} {n : Nat} {x : Int32} (hx1 : 0 ≤ x.toInt) (hx2 : x.toInt < 8) (hfd : m 37 2 = nI 0) (k : Q (some (.int 0)) (wd z m) n) : AW mX10_isCell Q 0 (am_ent (am_l mX10_isCell) [.ref 37, .int x]) [] (wd z m) n 0 0 := by
  show AW _ _ 0 [some (.ref 37), some (.int x)] [] _ _ 0 0
  refine r_iload_n 1 rfl 1 dX10_isCell_0 rfl rfl ?_
  refine r_i2l 2 rfl dX10_isCell_1 ?_
  refine r_lconst 3 rfl 0 dX10_isCell_2 rfl ?_
  refine r_ldc2 6 rfl 7 dX10_isCell_3 (cn_X10_107 rfl) ?_
  refine q_S 9 0 0 rfl [.long x.toInt64, .long 0, .long 7] rfl dX10_isCell_6 cl_X10_isCell__X10_in (lk_X10_64 rfl) st_X10_in (Nat.le_of_ble_eq_true rfl) (fun _ _ => Nat.le_of_ble_eq_true rfl) rfl rfl (Nat.le_of_ble_eq_true rfl) (Nat.le_of_ble_eq_true rfl) ?_
  refine c_in_t (show (0 : Int) ≤ x.toInt64.toInt by rw [Int32.toInt_toInt64]; omega) (show x.toInt64.toInt ≤ (7 : Int) by rw [Int32.toInt_toInt64]; omega) (k_i ?_)
  refine r_if_eq 12 23 rfl dX10_isCell_9 rfl (fun q__ => absurd q__ (by decide)) (fun _ => ?_)
  refine r_aload_n 13 rfl 0 dX10_isCell_12 rfl rfl ?_
  refine q_V 16 0 0 rfl [] rfl dX10_isCell_13 cl_X10_isCell__X10_lacks (lk_X10_109 rfl) im_X10_lacks (ci := 10) rfl sl_X10__X10_lacks rfl (Nat.le_of_ble_eq_true rfl) (fun _ _ => Nat.le_of_ble_eq_true rfl) rfl rfl (Nat.le_of_ble_eq_true rfl) (Nat.le_of_ble_eq_true rfl) ?_
  refine c_lacks_t hfd (k_i ?_)
  refine r_if_ne 19 23 rfl dX10_isCell_16 rfl (fun _ => ?_) (fun q__ => absurd q__ (by decide))
  refine r_iconst 24 rfl 0 dX10_isCell_23 rfl ?_
  refine r_zreturn rfl rfl dX10_isCell_24 (Nat.le_of_ble_eq_true rfl) (Nat.le_of_ble_eq_true rfl) ?_
  exact k

theorem c10_isCell_f {Q : am_P} {z : am_Z} {m : Nat → Nat → Int32} {n : Nat} {x : Int32} {fd : Nat} (hfd : m 37 2 = nI fd) (hf3 : fd ≤ 3) (hx : fd = 0 ∨ x.toInt < 0 ∨ 8 ≤ x.toInt) (k : Q (some (.int 0)) (wd z m) n) : AW mX10_isCell Q 0 (am_ent (am_l mX10_isCell) [.ref 37, .int x]) [] (wd z m) n 0 0 := by
  by_cases h : x.toInt < 0 ∨ 8 ≤ x.toInt
  · exact c10_isCell_f1 h k
  · have h0 : fd = 0 := by omega
    subst h0
    exact c10_isCell_f0 (by omega) (by omega) hfd k

set_option maxHeartbeats 4000000 in
set_option maxRecDepth 20000 in
theorem c_find_t {Q : am_P} {z : am_Z} {m : Nat → Nat → Int32} {n : Nat} {s ns q : Nat} (hns : m 7 0 = nI ns) (hn6 : ns ≤ 6) (hs : s < ns) (hq : z.2.1 s = some q) (k : Q (some (.ref q)) (wd z m) n) : AW mX9_find Q 0 (am_ent (am_l mX9_find) [.ref 1, .int (nI s)]) [] (wd z m) n 0 0 := by
  show AW _ _ 0 [some (.ref 1), some (.int (nI s))] [] _ _ 0 0
  refine r_iload_n 1 rfl 1 dX9_find_0 rfl rfl ?_
  refine r_if_lt 4 24 rfl dX9_find_1 rfl (fun q__ => absurd q__ (fun q__ => absurd ((nI_ltI (a := s) (b := 0) (by omega) (by omega)).mp q__) (by omega))) (fun _ => ?_)
  refine r_iload_n 5 rfl 1 dX9_find_4 rfl rfl ?_
  refine r_aload_n 6 rfl 0 dX9_find_5 rfl rfl ?_
  refine r_getf (v := .ref 7) (k := 3) 9 rfl dX9_find_6 (gf_X9_32_9 rfl) rfl rfl ?_
  refine r_getf (v := .int ((m 7) 0)) (k := 0) 12 rfl dX9_find_9 (gf_X9_119_5 rfl) rfl rfl ?_
  rw [show (m 7) 0 = nI ns from hns]
  refine r_icmp_ge 15 24 rfl dX9_find_12 rfl (fun q__ => absurd q__ (fun q__ => absurd ((nI_leI (a := ns) (b := s) (by omega) (by omega)).mp q__) (by omega))) (fun _ => ?_)
  refine r_aload_n 16 rfl 0 dX9_find_15 rfl rfl ?_
  refine r_getf (v := .ref 6) (k := 2) 19 rfl dX9_find_16 (gf_X9_25_9 rfl) rfl rfl ?_
  refine r_iload_n 20 rfl 1 dX9_find_19 rfl rfl ?_
  refine r_aald 21 rfl s (.ref q) dX9_find_20 rfl rfl (by omega) (by decide) (by rw [hq]; rfl) ?_
  refine r_goto 25 dX9_find_21 rfl ?_
  refine r_areturn rfl dX9_find_25 (Nat.le_of_ble_eq_true rfl) (Nat.le_of_ble_eq_true rfl) ?_
  exact k

set_option maxHeartbeats 4000000 in
set_option maxRecDepth 20000 in
theorem c_find_f {Q : am_P} {z : am_Z} {m : Nat → Nat → Int32} {n : Nat} {x : Int32} {ns : Nat} (hns : m 7 0 = nI ns) (hn6 : ns ≤ 6) (hx : x.toInt < 0 ∨ (ns : Int) ≤ x.toInt) (k : Q (some .null) (wd z m) n) : AW mX9_find Q 0 (am_ent (am_l mX9_find) [.ref 1, .int x]) [] (wd z m) n 0 0 := by
  show AW _ _ 0 [some (.ref 1), some (.int x)] [] _ _ 0 0
  refine r_iload_n 1 rfl 1 dX9_find_0 rfl rfl ?_
  refine r_if_lt 4 24 rfl dX9_find_1 rfl (fun c1 => ?_) (fun c1 => ?_)
  · replace c1 : x.toInt < (0 : Int) := Int32.lt_iff_toInt_lt.mp c1
    refine r_aconst_null 25 rfl dX9_find_24 ?_
    refine r_areturnN rfl dX9_find_25 (Nat.le_of_ble_eq_true rfl) (Nat.le_of_ble_eq_true rfl) ?_
    exact k
  · replace c1 : ¬ x.toInt < (0 : Int) := fun q__ => c1 (Int32.lt_iff_toInt_lt.mpr q__)
    refine r_iload_n 5 rfl 1 dX9_find_4 rfl rfl ?_
    refine r_aload_n 6 rfl 0 dX9_find_5 rfl rfl ?_
    refine r_getf (v := .ref 7) (k := 3) 9 rfl dX9_find_6 (gf_X9_32_9 rfl) rfl rfl ?_
    refine r_getf (v := .int ((m 7) 0)) (k := 0) 12 rfl dX9_find_9 (gf_X9_119_5 rfl) rfl rfl ?_
    rw [show (m 7) 0 = nI ns from hns]
    refine r_icmp_ge 15 24 rfl dX9_find_12 rfl (fun _ => ?_) (fun q__ => absurd (Int32.le_iff_toInt_le.mpr (by rw [nI_toInt (by omega)]; omega)) q__)
    refine r_aconst_null 25 rfl dX9_find_24 ?_
    refine r_areturnN rfl dX9_find_25 (Nat.le_of_ble_eq_true rfl) (Nat.le_of_ble_eq_true rfl) ?_
    exact k

set_option maxHeartbeats 4000000 in
set_option maxRecDepth 20000 in
theorem c_isSource_t {Q : am_P} {z : am_Z} {m : Nat → Nat → Int32} {n : Nat} {s ns : Nat} (hns : m 37 10 = nI ns) (hn6 : ns ≤ 7) (hs : s < ns) (k : Q (some (.int 1)) (wd z m) n) : AW mX10_isSource Q 0 (am_ent (am_l mX10_isSource) [.ref 37, .int (nI s)]) [] (wd z m) n 0 0 := by
  show AW _ _ 0 [some (.ref 37), some (.int (nI s))] [] _ _ 0 0
  refine r_iload_n 1 rfl 1 dX10_isSource_0 rfl rfl ?_
  refine r_i2l 2 rfl dX10_isSource_1 ?_
  refine r_lconst 3 rfl 0 dX10_isSource_2 rfl ?_
  refine r_aload_n 4 rfl 0 dX10_isSource_3 rfl rfl ?_
  refine r_getf (v := .int ((m 37) 10)) (k := 10) 7 rfl dX10_isSource_4 (gf_X10_95_10 rfl) rfl rfl ?_
  rw [show (m 37) 10 = nI ns from hns]
  refine r_iconst 8 rfl 1 dX10_isSource_7 rfl ?_
  refine r_isub 9 rfl dX10_isSource_8 ?_
  rw [show (nI ns) - 1 = nI (ns - 1) from pk_sub (show 1 ≤ ns by omega)]
  refine r_i2l 10 rfl dX10_isSource_9 ?_
  refine q_S 13 0 0 rfl [.long ((nI s).toInt64), .long 0, .long ((nI (ns - 1)).toInt64)] rfl dX10_isSource_10 cl_X10_isSource__X10_in (lk_X10_64 rfl) st_X10_in (Nat.le_of_ble_eq_true rfl) (fun _ _ => Nat.le_of_ble_eq_true rfl) rfl rfl (Nat.le_of_ble_eq_true rfl) (Nat.le_of_ble_eq_true rfl) ?_
  refine c_in_t (show (0 : Int) ≤ (nI s).toInt64.toInt by rw [Int32.toInt_toInt64, nI_toInt (by omega)]; omega) (by rw [Int32.toInt_toInt64, Int32.toInt_toInt64, nI_toInt (by omega), nI_toInt (by omega)]; omega) (k_i ?_)
  refine r_zreturn rfl rfl dX10_isSource_13 (Nat.le_of_ble_eq_true rfl) (Nat.le_of_ble_eq_true rfl) ?_
  exact k

set_option maxHeartbeats 4000000 in
set_option maxRecDepth 20000 in
theorem c_isSource_f {Q : am_P} {z : am_Z} {m : Nat → Nat → Int32} {n : Nat} {x : Int32} {ns : Nat} (hns : m 37 10 = nI ns) (hn6 : ns ≤ 7) (hx : x.toInt < 0 ∨ (ns : Int) ≤ x.toInt) (k : Q (some (.int 0)) (wd z m) n) : AW mX10_isSource Q 0 (am_ent (am_l mX10_isSource) [.ref 37, .int x]) [] (wd z m) n 0 0 := by
  show AW _ _ 0 [some (.ref 37), some (.int x)] [] _ _ 0 0
  refine r_iload_n 1 rfl 1 dX10_isSource_0 rfl rfl ?_
  refine r_i2l 2 rfl dX10_isSource_1 ?_
  refine r_lconst 3 rfl 0 dX10_isSource_2 rfl ?_
  refine r_aload_n 4 rfl 0 dX10_isSource_3 rfl rfl ?_
  refine r_getf (v := .int ((m 37) 10)) (k := 10) 7 rfl dX10_isSource_4 (gf_X10_95_10 rfl) rfl rfl ?_
  rw [show (m 37) 10 = nI ns from hns]
  refine r_iconst 8 rfl 1 dX10_isSource_7 rfl ?_
  refine r_isub 9 rfl dX10_isSource_8 ?_
  refine r_i2l 10 rfl dX10_isSource_9 ?_
  refine q_S 13 0 0 rfl [.long x.toInt64, .long 0, .long (((nI ns) - 1).toInt64)] rfl dX10_isSource_10 cl_X10_isSource__X10_in (lk_X10_64 rfl) st_X10_in (Nat.le_of_ble_eq_true rfl) (fun _ _ => Nat.le_of_ble_eq_true rfl) rfl rfl (Nat.le_of_ble_eq_true rfl) (Nat.le_of_ble_eq_true rfl) ?_
  refine c_in_f (show x.toInt64.toInt < (0 : Int) ∨ (nI ns - 1).toInt64.toInt < x.toInt64.toInt by rw [Int32.toInt_toInt64, Int32.toInt_toInt64, show (nI ns - 1).toInt = (ns : Int) - 1 from pk_sub_toInt (b := 1) (by omega) (by omega)]; omega) (k_i ?_)
  refine r_zreturn rfl rfl dX10_isSource_13 (Nat.le_of_ble_eq_true rfl) (Nat.le_of_ble_eq_true rfl) ?_
  exact k

set_option maxHeartbeats 4000000 in
set_option maxRecDepth 20000 in
theorem c_settleNow {Q : am_P} {z : am_Z} {m : Nat → Nat → Int32} {n : Nat} {D : Nat → Nat → Nat} (hC : C9 z m D) (k : ∀ m', AIR m' D → ag [29, 30, 31, 32] m m' → Q none (wd z m') n) : AW mX9_settleNow Q 0 (am_ent (am_l mX9_settleNow) [.ref 1]) [] (wd z m) n 0 0 := by
  show AW _ _ 0 [some (.ref 1)] [] _ _ 0 0
  obtain ⟨hg, hfd, hf3, hf1, hns, hn6, hsd, hsb, hwi, hw4, hfr, hr1, hhr, hh⟩ := id hC
  refine r_aload_n 1 rfl 0 dX9_settleNow_0 rfl rfl ?_
  refine r_getf (v := .ref 28) (k := 6) 4 rfl dX9_settleNow_1 (gf_X9_45_9 rfl) rfl rfl ?_
  refine r_aload_n 5 rfl 0 dX9_settleNow_4 rfl rfl ?_
  refine r_getf (v := .ref 4) (k := 1) 8 rfl dX9_settleNow_5 (gf_X9_19_9 rfl) rfl rfl ?_
  refine r_aload_n 9 rfl 0 dX9_settleNow_8 rfl rfl ?_
  refine r_getf (v := .ref 6) (k := 2) 12 rfl dX9_settleNow_9 (gf_X9_25_9 rfl) rfl rfl ?_
  refine r_aload_n 13 rfl 0 dX9_settleNow_12 rfl rfl ?_
  refine r_getf (v := .ref 7) (k := 3) 16 rfl dX9_settleNow_13 (gf_X9_32_9 rfl) rfl rfl ?_
  refine r_iconst 17 rfl 0 dX9_settleNow_16 rfl ?_
  refine q_V 20 0 0 rfl [.ref 4, .ref 6, .ref 7, .int 0] rfl dX9_settleNow_17 cl_X9_settleNow__X0_settle (lk_X9_247 rfl) im_X0_settle (ci := 0) rfl sl_X0__X0_settle rfl (Nat.le_of_ble_eq_true rfl) (fun _ _ => Nat.le_of_ble_eq_true rfl) rfl rfl (Nat.le_of_ble_eq_true rfl) (Nat.le_of_ble_eq_true rfl) ?_
  refine c_settle_7 (wl := 0) (D 0) hg hfd hf1 hf3 hns hn6 hsd hsb hwi hw4 hfr hr1 hhr hh (fun m' h29 h30 h31 hag => (k_v ?_))
  rw [sp_b0] at h29 h30 h31
  refine r_return rfl dX9_settleNow_20 (Nat.le_of_ble_eq_true rfl) (Nat.le_of_ble_eq_true rfl) ?_
  exact k m' (fun j hj => ⟨h29 j hj, h30 j hj, h31 j hj⟩) hag

theorem c_layC {Q : am_P} {z : am_Z} {m : Nat → Nat → Int32} {n : Nat} {D : Nat → Nat → Nat} (hC : C10 m D) (k : ∀ m', MIR m' D → ag [43, 44, 45] m m' → Q none (wd z m') n) : AW mX10_layCells Q 0 (am_ent (am_l mX10_layCells) [.ref 37]) [] (wd z m) n 0 0 := by
  obtain ⟨hg, hfd, hf3, hf1, hns, hn7, hmr, hwi, hw4, hfr, hr1, hhr, hh⟩ := id hC
  exact c_layCells (D 0) hg hfd hf3 hf1 hn7 hmr hwi hw4 hfr hr1 hhr hh hns (fun m' h45 h44 hag => k m' (fun j hj => ⟨h45 j hj, h44 j hj⟩) hag)
theorem c_who {Q : am_P} {z : am_Z} {m : Nat → Nat → Int32} {n : Nat} {D : Nat → Nat → Nat} (hC : C10 m D) (hM : MIR m D) {c : Nat} (hc : c < 8) (k : Q (some (.int (WH D c))) (wd z m) n) : AW mX10_whose Q 0 (am_ent (am_l mX10_whose) [.ref 37, .int (nI c)]) [] (wd z m) n 0 0 := by
  obtain ⟨hg, hfd, hf3, hf1, hns, hn7, hmr, hwi, hw4, hfr, hr1, hhr, hh⟩ := id hC
  exact c_whose hc hn7 (hM c hc).2 (fun s hs => (hmr s hs).1.2.1) k
