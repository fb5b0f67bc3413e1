set_option maxHeartbeats 4000000 in
set_option maxRecDepth 20000 in
theorem c_isBorder_n {Q : am_P} {z : am_Z} {m : Nat → Nat → Int32} {n : Nat} {c : Nat} (hc : c < 8) (k : Q (some (.int 0)) (wd z m) n) : AW mX0_isBorder Q 0 (am_ent (am_l mX0_isBorder) [.ref 28, .int (nI c), .int (-1)]) [] (wd z m) n 0 0 := by
  show AW _ _ 0 [some (.ref 28), some (.int (nI c)), some (.int (-1))] [] _ _ 0 0
  refine r_iload_n 1 rfl 2 dX0_isBorder_0 rfl rfl ?_
  refine r_iconst 2 rfl (-1) dX0_isBorder_1 rfl ?_
  refine r_icmp_eq 5 25 rfl dX0_isBorder_2 rfl (fun _ => ?_) (fun q__ => absurd (by decide) q__)
  refine r_iconst 26 rfl 0 dX0_isBorder_25 rfl ?_
  refine r_zreturn rfl rfl dX0_isBorder_26 (Nat.le_of_ble_eq_true rfl) (Nat.le_of_ble_eq_true rfl) ?_
  exact k

set_option maxHeartbeats 4000000 in
set_option maxRecDepth 20000 in
theorem c_isBorder_s {Q : am_P} {z : am_Z} {m : Nat → Nat → Int32} {n : Nat} {c t : Nat} (hc : c < 8) (ht : t < 8) (k1 : (¬ m 31 c = -1 ∧ ¬ m 31 t = -1 ∧ ¬ m 31 c = m 31 t) → Q (some (.int 1)) (wd z m) n) (k0 : ¬ (¬ m 31 c = -1 ∧ ¬ m 31 t = -1 ∧ ¬ m 31 c = m 31 t) → Q (some (.int 0)) (wd z m) n) : AW mX0_isBorder Q 0 (am_ent (am_l mX0_isBorder) [.ref 28, .int (nI c), .int (nI t)]) [] (wd z m) n 0 0 := by
  show AW _ _ 0 [some (.ref 28), some (.int (nI c)), some (.int (nI t))] [] _ _ 0 0
  refine r_iload_n 1 rfl 2 dX0_isBorder_0 rfl rfl ?_
  refine r_iconst 2 rfl (-1) dX0_isBorder_1 rfl ?_
  refine r_icmp_eq 5 25 rfl dX0_isBorder_2 rfl (fun q__ => absurd q__ (nI_m1 (by omega))) (fun _ => ?_)
  refine r_aload_n 6 rfl 0 dX0_isBorder_5 rfl rfl ?_
  refine r_getf (v := .ref 31) (k := 2) 9 rfl dX0_isBorder_6 (gf_X0_18_0 rfl) rfl rfl ?_
  refine r_iload_n 10 rfl 1 dX0_isBorder_9 rfl rfl ?_
  refine r_iald (f := m 31) 11 rfl c dX0_isBorder_10 rfl rfl (by omega) (by decide) ?_
  refine r_iconst 12 rfl (-1) dX0_isBorder_11 rfl ?_
  refine r_icmp_eq 15 25 rfl dX0_isBorder_12 rfl (fun c12 => ?_) (fun c12 => ?_)
  · refine r_iconst 26 rfl 0 dX0_isBorder_25 rfl ?_
    refine r_zreturn rfl rfl dX0_isBorder_26 (Nat.le_of_ble_eq_true rfl) (Nat.le_of_ble_eq_true rfl) ?_
    exact k0 (fun q => by first | exact q.1 c12 | exact q.2.1 c22 | exact q.2.2 c39)
  · refine r_aload_n 16 rfl 0 dX0_isBorder_15 rfl rfl ?_
    refine r_getf (v := .ref 31) (k := 2) 19 rfl dX0_isBorder_16 (gf_X0_18_0 rfl) rfl rfl ?_
    refine r_iload_n 20 rfl 2 dX0_isBorder_19 rfl rfl ?_
    refine r_iald (f := m 31) 21 rfl t dX0_isBorder_20 rfl rfl (by omega) (by decide) ?_
    refine r_iconst 22 rfl (-1) dX0_isBorder_21 rfl ?_
    refine r_icmp_ne 25 27 rfl dX0_isBorder_22 rfl (fun c22 => ?_) (fun c22 => ?_)
    · refine r_aload_n 28 rfl 0 dX0_isBorder_27 rfl rfl ?_
      refine r_getf (v := .ref 31) (k := 2) 31 rfl dX0_isBorder_28 (gf_X0_18_0 rfl) rfl rfl ?_
      refine r_iload_n 32 rfl 1 dX0_isBorder_31 rfl rfl ?_
      refine r_iald (f := m 31) 33 rfl c dX0_isBorder_32 rfl rfl (by omega) (by decide) ?_
      refine r_aload_n 34 rfl 0 dX0_isBorder_33 rfl rfl ?_
      refine r_getf (v := .ref 31) (k := 2) 37 rfl dX0_isBorder_34 (gf_X0_18_0 rfl) rfl rfl ?_
      refine r_iload_n 38 rfl 2 dX0_isBorder_37 rfl rfl ?_
      refine r_iald (f := m 31) 39 rfl t dX0_isBorder_38 rfl rfl (by omega) (by decide) ?_
      refine r_icmp_eq 42 46 rfl dX0_isBorder_39 rfl (fun c39 => ?_) (fun c39 => ?_)
      · refine r_iconst 47 rfl 0 dX0_isBorder_46 rfl ?_
        refine r_zreturn rfl rfl dX0_isBorder_47 (Nat.le_of_ble_eq_true rfl) (Nat.le_of_ble_eq_true rfl) ?_
        exact k0 (fun q => by first | exact q.1 c12 | exact q.2.1 c22 | exact q.2.2 c39)
      · refine r_iconst 43 rfl 1 dX0_isBorder_42 rfl ?_
        refine r_goto 47 dX0_isBorder_43 rfl ?_
        refine r_zreturn rfl rfl dX0_isBorder_47 (Nat.le_of_ble_eq_true rfl) (Nat.le_of_ble_eq_true rfl) ?_
        exact k1 ⟨c12, c22, c39⟩
    · refine r_iconst 26 rfl 0 dX0_isBorder_25 rfl ?_
      refine r_zreturn rfl rfl dX0_isBorder_26 (Nat.le_of_ble_eq_true rfl) (Nat.le_of_ble_eq_true rfl) ?_
      exact k0 (fun q => by first | exact q.1 c12 | exact q.2.1 c22 | exact q.2.2 c39)

set_option maxHeartbeats 4000000 in
set_option maxRecDepth 20000 in
theorem lp_countBorders {Q : am_P} {z : am_Z} {m : Nat → Nat → Int32} {n : Nat} {who : Nat → Int32} (hw : ∀ j, j < 8 → m 31 j = who j) (k : Q (some (.int (nI (bd_n who 16)))) (wd z m) n) : ∀ (d c : Nat), c + d = 8 → AW mX0_countBorders Q 4 [some (.ref 28), some (.int (nI (bd_n who (2 * c)))), some (.int (nI c))] [] (wd z m) n 0 0 := by
  intro d
  induction d with
  | zero =>
    intro c hc
    have hc : c = 8 := by omega
    subst hc
    refine r_iload_n 5 rfl 2 dX0_countBorders_4 rfl rfl ?_
    refine r_bipush 7 rfl 8 dX0_countBorders_5 (by decide) ?_
    refine r_icmp_ge 10 48 rfl dX0_countBorders_7 rfl (fun _ => ?_) (fun q__ => absurd ((nI_leI (a := 8) (b := 8) (by omega) (by omega)).mpr (by omega)) q__)
    refine r_iload_n 49 rfl 1 dX0_countBorders_48 rfl rfl ?_
    refine r_ireturn rfl dX0_countBorders_49 (Nat.le_of_ble_eq_true rfl) (Nat.le_of_ble_eq_true rfl) ?_
    exact k
  | succ d ih =>
    intro c hc
    have hb := bd_n_le who (2 * c)
    have e1 : bd_n who (2 * c + 1) = bd_n who (2 * c) + (if bd_p who c 1 = true then 1 else 0) := by
      show bd_n who (2 * c) + (if bd_p who (2 * c / 2) (if 2 * c % 2 = 0 then 1 else 3) = true then 1 else 0) = _
      rw [show 2 * c / 2 = c by omega, show 2 * c % 2 = 0 by omega, if_pos rfl]
    have e2 : bd_n who (2 * (c + 1)) = bd_n who (2 * c + 1) + (if bd_p who c 3 = true then 1 else 0) := by
      rw [show 2 * (c + 1) = (2 * c + 1) + 1 by omega]
      show bd_n who (2 * c + 1) + (if bd_p who ((2 * c + 1) / 2) (if (2 * c + 1) % 2 = 0 then 1 else 3) = true then 1 else 0) = _
      rw [show (2 * c + 1) / 2 = c by omega, show (2 * c + 1) % 2 = 1 by omega, show (if (1 : Nat) = 0 then 1 else 3) = 3 from rfl]
    have hb1 := bd_n_le who (2 * c + 1)
    have key : ∀ x : Nat, x = bd_n who (2 * c + 1) → AW mX0_countBorders Q 26 [some (.ref 28), some (.int (nI x)), some (.int (nI c))] [] (wd z m) n 0 0 := by
      intro x hx
      rw [hx]
      refine r_aload_n 27 rfl 0 dX0_countBorders_26 rfl rfl ?_
      refine r_iload_n 28 rfl 2 dX0_countBorders_27 rfl rfl ?_
      refine r_iload_n 29 rfl 2 dX0_countBorders_28 rfl rfl ?_
      refine r_iconst 30 rfl 3 dX0_countBorders_29 rfl ?_
      refine q_S 33 0 0 rfl [.int (nI c), .int 3] rfl dX0_countBorders_30 cl_X0_countBorders__X7_beside (lk_X0_66 rfl) st_X7_beside (Nat.le_of_ble_eq_true rfl) (fun _ _ => Nat.le_of_ble_eq_true rfl) rfl rfl (Nat.le_of_ble_eq_true rfl) (Nat.le_of_ble_eq_true rfl) ?_
      refine c_X7_beside (w := 3) (by omega) (by decide) (by decide) (fun t hto ht => (k_i ?_)) (fun hto => (k_i ?_))
      · have hwc := hw c (by omega)
        have hwt := hw t ht
        refine q_V 36 0 0 rfl [.int (nI c), .int (nI t)] rfl dX0_countBorders_33 cl_X0_countBorders__X0_isBorder (lk_X0_70 rfl) im_X0_isBorder (ci := 0) rfl sl_X0__X0_isBorder rfl (Nat.le_of_ble_eq_true rfl) (fun _ _ => Nat.le_of_ble_eq_true rfl) rfl rfl (Nat.le_of_ble_eq_true rfl) (Nat.le_of_ble_eq_true rfl) ?_
        refine c_isBorder_s (by omega) ht (fun hbo => (k_i ?_)) (fun hbo => (k_i ?_))
        · refine r_if_eq 39 42 rfl dX0_countBorders_36 rfl (fun q__ => absurd q__ (by decide)) (fun _ => ?_)
          refine r_iinc 42 rfl (nI ((bd_n who (2 * c + 1)) + 1)) [some (.ref 28), some (.int (nI ((bd_n who (2 * c + 1)) + 1))), some (.int (nI c))] dX0_countBorders_39 rfl (nI_1 _) (by decide) rfl ?_
          refine r_iinc 45 rfl (nI (c + 1)) [some (.ref 28), some (.int (nI ((bd_n who (2 * c + 1)) + 1))), some (.int (nI (c + 1)))] dX0_countBorders_42 rfl (nI_1 _) (by decide) rfl ?_
          refine r_goto 4 dX0_countBorders_45 rfl ?_
          rw [hwc, hwt] at hbo
          have hp : bd_p who c 3 = true := by unfold bd_p; rw [hto]; simp only [Bool.and_eq_true, decide_eq_true_eq]; exact hbo
          rw [if_pos hp] at e2
          rw [show bd_n who (2 * c + 1) + 1 = bd_n who (2 * (c + 1)) from e2.symm]
          exact ih (c + 1) (by omega)
        · refine r_if_eq 39 42 rfl dX0_countBorders_36 rfl (fun _ => ?_) (fun q__ => absurd (by decide) q__)
          refine r_iinc 45 rfl (nI (c + 1)) [some (.ref 28), some (.int (nI (bd_n who (2 * c + 1)))), some (.int (nI (c + 1)))] dX0_countBorders_42 rfl (nI_1 _) (by decide) rfl ?_
          refine r_goto 4 dX0_countBorders_45 rfl ?_
          rw [hwc, hwt] at hbo
          have hp : ¬ bd_p who c 3 = true := by unfold bd_p; rw [hto]; simp only [Bool.and_eq_true, decide_eq_true_eq]; exact hbo
          rw [if_neg hp] at e2
          rw [show bd_n who (2 * c + 1) = bd_n who (2 * (c + 1)) from e2.symm]
          exact ih (c + 1) (by omega)
      · refine q_V 36 0 0 rfl [.int (nI c), .int (-1)] rfl dX0_countBorders_33 cl_X0_countBorders__X0_isBorder (lk_X0_70 rfl) im_X0_isBorder (ci := 0) rfl sl_X0__X0_isBorder rfl (Nat.le_of_ble_eq_true rfl) (fun _ _ => Nat.le_of_ble_eq_true rfl) rfl rfl (Nat.le_of_ble_eq_true rfl) (Nat.le_of_ble_eq_true rfl) ?_
        refine c_isBorder_n (by omega) (k_i ?_)
        refine r_if_eq 39 42 rfl dX0_countBorders_36 rfl (fun _ => ?_) (fun q__ => absurd (by decide) q__)
        refine r_iinc 45 rfl (nI (c + 1)) [some (.ref 28), some (.int (nI (bd_n who (2 * c + 1)))), some (.int (nI (c + 1)))] dX0_countBorders_42 rfl (nI_1 _) (by decide) rfl ?_
        refine r_goto 4 dX0_countBorders_45 rfl ?_
        have hp : ¬ bd_p who c 3 = true := by unfold bd_p; rw [hto]; exact Bool.false_ne_true
        rw [if_neg hp] at e2
        rw [show bd_n who (2 * c + 1) = bd_n who (2 * (c + 1)) from e2.symm]
        exact ih (c + 1) (by omega)
    refine r_iload_n 5 rfl 2 dX0_countBorders_4 rfl rfl ?_
    refine r_bipush 7 rfl 8 dX0_countBorders_5 (by decide) ?_
    refine r_icmp_ge 10 48 rfl dX0_countBorders_7 rfl (fun q__ => absurd q__ (fun q__ => absurd ((nI_leI (a := 8) (b := c) (by omega) (by omega)).mp q__) (by omega))) (fun _ => ?_)
    refine r_aload_n 11 rfl 0 dX0_countBorders_10 rfl rfl ?_
    refine r_iload_n 12 rfl 2 dX0_countBorders_11 rfl rfl ?_
    refine r_iload_n 13 rfl 2 dX0_countBorders_12 rfl rfl ?_
    refine r_iconst 14 rfl 1 dX0_countBorders_13 rfl ?_
    refine q_S 17 0 0 rfl [.int (nI c), .int 1] rfl dX0_countBorders_14 cl_X0_countBorders__X7_beside (lk_X0_66 rfl) st_X7_beside (Nat.le_of_ble_eq_true rfl) (fun _ _ => Nat.le_of_ble_eq_true rfl) rfl rfl (Nat.le_of_ble_eq_true rfl) (Nat.le_of_ble_eq_true rfl) ?_
    refine c_X7_beside (w := 1) (by omega) (by decide) (by decide) (fun t hto ht => (k_i ?_)) (fun hto => (k_i ?_))
    · have hwc := hw c (by omega)
      have hwt := hw t ht
      refine q_V 20 0 0 rfl [.int (nI c), .int (nI t)] rfl dX0_countBorders_17 cl_X0_countBorders__X0_isBorder (lk_X0_70 rfl) im_X0_isBorder (ci := 0) rfl sl_X0__X0_isBorder rfl (Nat.le_of_ble_eq_true rfl) (fun _ _ => Nat.le_of_ble_eq_true rfl) rfl rfl (Nat.le_of_ble_eq_true rfl) (Nat.le_of_ble_eq_true rfl) ?_
      refine c_isBorder_s (by omega) ht (fun hbo => (k_i ?_)) (fun hbo => (k_i ?_))
      · refine r_if_eq 23 26 rfl dX0_countBorders_20 rfl (fun q__ => absurd q__ (by decide)) (fun _ => ?_)
        refine r_iinc 26 rfl (nI ((bd_n who (2 * c)) + 1)) [some (.ref 28), some (.int (nI ((bd_n who (2 * c)) + 1))), some (.int (nI c))] dX0_countBorders_23 rfl (nI_1 _) (by decide) rfl ?_
        rw [hwc, hwt] at hbo
        have hp : bd_p who c 1 = true := by unfold bd_p; rw [hto]; simp only [Bool.and_eq_true, decide_eq_true_eq]; exact hbo
        rw [if_pos hp] at e1
        exact key _ e1.symm
      · refine r_if_eq 23 26 rfl dX0_countBorders_20 rfl (fun _ => ?_) (fun q__ => absurd (by decide) q__)
        rw [hwc, hwt] at hbo
        have hp : ¬ bd_p who c 1 = true := by unfold bd_p; rw [hto]; simp only [Bool.and_eq_true, decide_eq_true_eq]; exact hbo
        rw [if_neg hp] at e1
        exact key _ e1.symm
    · refine q_V 20 0 0 rfl [.int (nI c), .int (-1)] rfl dX0_countBorders_17 cl_X0_countBorders__X0_isBorder (lk_X0_70 rfl) im_X0_isBorder (ci := 0) rfl sl_X0__X0_isBorder rfl (Nat.le_of_ble_eq_true rfl) (fun _ _ => Nat.le_of_ble_eq_true rfl) rfl rfl (Nat.le_of_ble_eq_true rfl) (Nat.le_of_ble_eq_true rfl) ?_
      refine c_isBorder_n (by omega) (k_i ?_)
      refine r_if_eq 23 26 rfl dX0_countBorders_20 rfl (fun _ => ?_) (fun q__ => absurd (by decide) q__)
      have hp : ¬ bd_p who c 1 = true := by unfold bd_p; rw [hto]; exact Bool.false_ne_true
      rw [if_neg hp] at e1
      exact key _ e1.symm
set_option maxHeartbeats 4000000 in
set_option maxRecDepth 20000 in
theorem c_countBorders {Q : am_P} {z : am_Z} {m : Nat → Nat → Int32} {n : Nat} {who : Nat → Int32} (hw : ∀ j, j < 8 → m 31 j = who j) (k : Q (some (.int (nI (bd_n who 16)))) (wd z m) n) : AW mX0_countBorders Q 0 (am_ent (am_l mX0_countBorders) [.ref 28]) [] (wd z m) n 0 0 := by
  show AW _ _ 0 [some (.ref 28), none, none] [] _ _ 0 0
  refine r_iconst 1 rfl 0 dX0_countBorders_0 rfl ?_
  refine r_istore_n 2 rfl 1 [some (.ref 28), some (.int 0), none] dX0_countBorders_1 rfl (by decide) rfl ?_
  refine r_iconst 3 rfl 0 dX0_countBorders_2 rfl ?_
  refine r_istore_n 4 rfl 2 [some (.ref 28), some (.int 0), some (.int 0)] dX0_countBorders_3 rfl (by decide) rfl ?_
  exact lp_countBorders hw k 8 0 rfl

set_option maxHeartbeats 4000000 in
set_option maxRecDepth 20000 in
theorem lp_countOwned {Q : am_P} {z : am_Z} {m : Nat → Nat → Int32} {n : Nat} {who : Nat → Int32} (hw : ∀ j, j < 8 → m 31 j = who j) (k : Q (some (.int (nI (co_n who 8)))) (wd z m) n) : ∀ (d c : Nat), c + d = 8 → AW mX0_countOwned Q 4 [some (.ref 28), some (.int (nI (co_n who c))), some (.int (nI c))] [] (wd z m) n 0 0 := by
  intro d
  induction d with
  | zero =>
    intro c hc
    have hc : c = 8 := by omega
    subst hc
    refine r_iload_n 5 rfl 2 dX0_countOwned_4 rfl rfl ?_
    refine r_bipush 7 rfl 8 dX0_countOwned_5 (by decide) ?_
    refine r_icmp_ge 10 29 rfl dX0_countOwned_7 rfl (fun _ => ?_) (fun q__ => absurd ((nI_leI (a := 8) (b := 8) (by omega) (by omega)).mpr (by omega)) q__)
    refine r_iload_n 30 rfl 1 dX0_countOwned_29 rfl rfl ?_
    refine r_ireturn rfl dX0_countOwned_30 (Nat.le_of_ble_eq_true rfl) (Nat.le_of_ble_eq_true rfl) ?_
    exact k
  | succ d ih =>
    intro c hc
    have hb := co_n_le who c
    have hwc := hw c (by omega)
    have e1 : co_n who (c + 1) = co_n who c + (if who c = -1 then 0 else 1) := rfl
    refine r_iload_n 5 rfl 2 dX0_countOwned_4 rfl rfl ?_
    refine r_bipush 7 rfl 8 dX0_countOwned_5 (by decide) ?_
    refine r_icmp_ge 10 29 rfl dX0_countOwned_7 rfl (fun q__ => absurd q__ (fun q__ => absurd ((nI_leI (a := 8) (b := c) (by omega) (by omega)).mp q__) (by omega))) (fun _ => ?_)
    refine r_aload_n 11 rfl 0 dX0_countOwned_10 rfl rfl ?_
    refine r_getf (v := .ref 31) (k := 2) 14 rfl dX0_countOwned_11 (gf_X0_18_0 rfl) rfl rfl ?_
    refine r_iload_n 15 rfl 2 dX0_countOwned_14 rfl rfl ?_
    refine r_iald (f := m 31) 16 rfl c dX0_countOwned_15 rfl rfl (by omega) (by decide) ?_
    refine r_iconst 17 rfl (-1) dX0_countOwned_16 rfl ?_
    refine r_icmp_eq 20 23 rfl dX0_countOwned_17 rfl (fun c17 => ?_) (fun c17 => ?_)
    · rw [hwc] at c17
      rw [if_pos c17] at e1
      refine r_iinc 26 rfl (nI (c + 1)) [some (.ref 28), some (.int (nI (co_n who c))), some (.int (nI (c + 1)))] dX0_countOwned_23 rfl (nI_1 _) (by decide) rfl ?_
      refine r_goto 4 dX0_countOwned_26 rfl ?_
      rw [show co_n who c = co_n who (c + 1) from e1.symm]
      exact ih (c + 1) (by omega)
    · rw [hwc] at c17
      rw [if_neg c17] at e1
      refine r_iinc 23 rfl (nI ((co_n who c) + 1)) [some (.ref 28), some (.int (nI ((co_n who c) + 1))), some (.int (nI c))] dX0_countOwned_20 rfl (nI_1 _) (by decide) rfl ?_
      refine r_iinc 26 rfl (nI (c + 1)) [some (.ref 28), some (.int (nI ((co_n who c) + 1))), some (.int (nI (c + 1)))] dX0_countOwned_23 rfl (nI_1 _) (by decide) rfl ?_
      refine r_goto 4 dX0_countOwned_26 rfl ?_
      rw [show co_n who c + 1 = co_n who (c + 1) from e1.symm]
      exact ih (c + 1) (by omega)
set_option maxHeartbeats 4000000 in
set_option maxRecDepth 20000 in
theorem c_countOwned {Q : am_P} {z : am_Z} {m : Nat → Nat → Int32} {n : Nat} {who : Nat → Int32} (hw : ∀ j, j < 8 → m 31 j = who j) (k : Q (some (.int (nI (co_n who 8)))) (wd z m) n) : AW mX0_countOwned Q 0 (am_ent (am_l mX0_countOwned) [.ref 28]) [] (wd z m) n 0 0 := by
  show AW _ _ 0 [some (.ref 28), none, none] [] _ _ 0 0
  refine r_iconst 1 rfl 0 dX0_countOwned_0 rfl ?_
  refine r_istore_n 2 rfl 1 [some (.ref 28), some (.int 0), none] dX0_countOwned_1 rfl (by decide) rfl ?_
  refine r_iconst 3 rfl 0 dX0_countOwned_2 rfl ?_
  refine r_istore_n 4 rfl 2 [some (.ref 28), some (.int 0), some (.int 0)] dX0_countOwned_3 rfl (by decide) rfl ?_
  exact lp_countOwned hw k 8 0 rfl

set_option maxHeartbeats 4000000 in
set_option maxRecDepth 20000 in
theorem lp_bordersOf {Q : am_P} {z : am_Z} {m : Nat → Nat → Int32} {n : Nat} {D : Nat → Nat → Nat} (hC : C10 m D) (hM : MIR m D) (k : Q (some (.int (nI (bd_n (WH D) 16)))) (wd z m) n) : ∀ (d k : Nat), k + d = 16 → AW mX10_bordersOf Q 8 [some (.ref 37), some (.int (nI (bd_n (WH D) k))), some (.int (nI k)), none, none] [] (wd z m) n 0 0 := by
  intro d
  induction d with
  | zero =>
    intro j hj
    have hj : j = 16 := by omega
    subst hj
    refine r_iload_n 9 rfl 2 dX10_bordersOf_8 rfl rfl ?_
    refine r_bipush 11 rfl 16 dX10_bordersOf_9 (by decide) ?_
    refine r_icmp_ge 14 88 rfl dX10_bordersOf_11 rfl (fun _ => ?_) (fun q__ => absurd ((nI_leI (a := 16) (b := 16) (by omega) (by omega)).mpr (by omega)) q__)
    refine r_iload_n 89 rfl 1 dX10_bordersOf_88 rfl rfl ?_
    refine r_ireturn rfl dX10_bordersOf_89 (Nat.le_of_ble_eq_true rfl) (Nat.le_of_ble_eq_true rfl) ?_
    exact k
  | succ d ih =>
    intro j hj
    have hb := bd_n_le (WH D) j
    have e1 : bd_n (WH D) (j + 1) = bd_n (WH D) j + (if bd_p (WH D) (j / 2) (if j % 2 = 0 then 1 else 3) = true then 1 else 0) := rfl
    have hc8 : j / 2 < 8 := by omega
    have key : ∀ w, w = 1 ∨ w = 3 → (if j % 2 = 0 then 1 else 3) = w → AW mX10_bordersOf Q 30 [some (.ref 37), some (.int (nI (bd_n (WH D) j))), some (.int (nI j)), some (.int (nI (j / 2))), none] [.int (nI w), .int (nI (j / 2))] (wd z m) n 0 0 := by
      intro w hw13 hww
      rw [hww] at e1
      generalize hcc : j / 2 = c at e1 hc8
      refine q_S 33 0 0 rfl [.int (nI c), .int (nI w)] rfl dX10_bordersOf_30 cl_X10_bordersOf__X10_beside (lk_X10_137 rfl) st_X10_beside (Nat.le_of_ble_eq_true rfl) (fun _ _ => Nat.le_of_ble_eq_true rfl) rfl rfl (Nat.le_of_ble_eq_true rfl) (Nat.le_of_ble_eq_true rfl) ?_
      refine c_X10_beside hc8 (by omega) (by omega) (fun t hto ht => (k_i ?_)) (fun hto => (k_i ?_))
      · refine r_istore 35 rfl [some (.ref 37), some (.int (nI (bd_n (WH D) j))), some (.int (nI j)), some (.int (nI c)), some (.int (nI t))] dX10_bordersOf_33 (by decide) rfl ?_
        refine r_iload_n 36 rfl 1 dX10_bordersOf_35 rfl rfl ?_
        refine r_iload 38 rfl dX10_bordersOf_36 rfl ?_
        refine r_iconst 39 rfl (-1) dX10_bordersOf_38 rfl ?_
        refine r_icmp_eq 42 79 rfl dX10_bordersOf_39 rfl (fun q__ => absurd q__ (nI_m1 (by omega))) (fun _ => ?_)
        refine r_aload_n 43 rfl 0 dX10_bordersOf_42 rfl rfl ?_
        refine r_iload_n 44 rfl 3 dX10_bordersOf_43 rfl rfl ?_
        refine q_V 47 0 0 rfl [.int (nI c)] rfl dX10_bordersOf_44 cl_X10_bordersOf__X10_whose (lk_X10_152 rfl) im_X10_whose (ci := 10) rfl sl_X10__X10_whose rfl (Nat.le_of_ble_eq_true rfl) (fun _ _ => Nat.le_of_ble_eq_true rfl) rfl rfl (Nat.le_of_ble_eq_true rfl) (Nat.le_of_ble_eq_true rfl) ?_
        refine c_who hC hM hc8 (k_i ?_)
        refine r_iconst 48 rfl (-1) dX10_bordersOf_47 rfl ?_
        refine r_icmp_eq 51 79 rfl dX10_bordersOf_48 rfl (fun c48 => ?_) (fun c48 => ?_)
        · have hp : ¬ bd_p (WH D) c w = true := by unfold bd_p; rw [hto]; simp only [Bool.and_eq_true, decide_eq_true_eq]; exact fun q => q.1 c48
          refine r_iconst 80 rfl 0 dX10_bordersOf_79 rfl ?_
          refine r_iadd 81 rfl dX10_bordersOf_80 ?_
          rw [show (nI (bd_n (WH D) j)) + 0 = nI ((bd_n (WH D) j) + 0) from nI_add (bd_n (WH D) j) 0]
          refine r_istore_n 82 rfl 1 [some (.ref 37), some (.int (nI ((bd_n (WH D) j) + 0))), some (.int (nI j)), some (.int (nI c)), some (.int (nI t))] dX10_bordersOf_81 rfl (by decide) rfl ?_
          refine r_iinc 85 rfl (nI (j + 1)) [some (.ref 37), some (.int (nI ((bd_n (WH D) j) + 0))), some (.int (nI (j + 1))), some (.int (nI c)), some (.int (nI t))] dX10_bordersOf_82 rfl (nI_1 _) (by decide) rfl ?_
          refine r_goto 8 dX10_bordersOf_85 rfl ?_
          refine AW.drop 3 [some (.ref 37), some (.int (nI ((bd_n (WH D) j) + 0))), some (.int (nI (j + 1))), none, some (.int (nI t))] rfl ?_
          refine AW.drop 4 [some (.ref 37), some (.int (nI ((bd_n (WH D) j) + 0))), some (.int (nI (j + 1))), none, none] rfl ?_
          rw [if_neg hp] at e1
          rw [show bd_n (WH D) j + 0 = bd_n (WH D) (j + 1) from e1.symm]
          exact ih (j + 1) (by omega)
        · refine r_aload_n 52 rfl 0 dX10_bordersOf_51 rfl rfl ?_
          refine r_iload 54 rfl dX10_bordersOf_52 rfl ?_
          refine q_V 57 0 0 rfl [.int (nI t)] rfl dX10_bordersOf_54 cl_X10_bordersOf__X10_whose (lk_X10_152 rfl) im_X10_whose (ci := 10) rfl sl_X10__X10_whose rfl (Nat.le_of_ble_eq_true rfl) (fun _ _ => Nat.le_of_ble_eq_true rfl) rfl rfl (Nat.le_of_ble_eq_true rfl) (Nat.le_of_ble_eq_true rfl) ?_
          refine c_who hC hM ht (k_i ?_)
          refine r_iconst 58 rfl (-1) dX10_bordersOf_57 rfl ?_
          refine r_icmp_eq 61 79 rfl dX10_bordersOf_58 rfl (fun c58 => ?_) (fun c58 => ?_)
          · have hp : ¬ bd_p (WH D) c w = true := by unfold bd_p; rw [hto]; simp only [Bool.and_eq_true, decide_eq_true_eq]; exact fun q => q.2.1 c58
            refine r_iconst 80 rfl 0 dX10_bordersOf_79 rfl ?_
            refine r_iadd 81 rfl dX10_bordersOf_80 ?_
            rw [show (nI (bd_n (WH D) j)) + 0 = nI ((bd_n (WH D) j) + 0) from nI_add (bd_n (WH D) j) 0]
            refine r_istore_n 82 rfl 1 [some (.ref 37), some (.int (nI ((bd_n (WH D) j) + 0))), some (.int (nI j)), some (.int (nI c)), some (.int (nI t))] dX10_bordersOf_81 rfl (by decide) rfl ?_
            refine r_iinc 85 rfl (nI (j + 1)) [some (.ref 37), some (.int (nI ((bd_n (WH D) j) + 0))), some (.int (nI (j + 1))), some (.int (nI c)), some (.int (nI t))] dX10_bordersOf_82 rfl (nI_1 _) (by decide) rfl ?_
            refine r_goto 8 dX10_bordersOf_85 rfl ?_
            refine AW.drop 3 [some (.ref 37), some (.int (nI ((bd_n (WH D) j) + 0))), some (.int (nI (j + 1))), none, some (.int (nI t))] rfl ?_
            refine AW.drop 4 [some (.ref 37), some (.int (nI ((bd_n (WH D) j) + 0))), some (.int (nI (j + 1))), none, none] rfl ?_
            rw [if_neg hp] at e1
            rw [show bd_n (WH D) j + 0 = bd_n (WH D) (j + 1) from e1.symm]
            exact ih (j + 1) (by omega)
          · refine r_aload_n 62 rfl 0 dX10_bordersOf_61 rfl rfl ?_
            refine r_iload_n 63 rfl 3 dX10_bordersOf_62 rfl rfl ?_
            refine q_V 66 0 0 rfl [.int (nI c)] rfl dX10_bordersOf_63 cl_X10_bordersOf__X10_whose (lk_X10_152 rfl) im_X10_whose (ci := 10) rfl sl_X10__X10_whose rfl (Nat.le_of_ble_eq_true rfl) (fun _ _ => Nat.le_of_ble_eq_true rfl) rfl rfl (Nat.le_of_ble_eq_true rfl) (Nat.le_of_ble_eq_true rfl) ?_
            refine c_who hC hM hc8 (k_i ?_)
            refine r_aload_n 67 rfl 0 dX10_bordersOf_66 rfl rfl ?_
            refine r_iload 69 rfl dX10_bordersOf_67 rfl ?_
            refine q_V 72 0 0 rfl [.int (nI t)] rfl dX10_bordersOf_69 cl_X10_bordersOf__X10_whose (lk_X10_152 rfl) im_X10_whose (ci := 10) rfl sl_X10__X10_whose rfl (Nat.le_of_ble_eq_true rfl) (fun _ _ => Nat.le_of_ble_eq_true rfl) rfl rfl (Nat.le_of_ble_eq_true rfl) (Nat.le_of_ble_eq_true rfl) ?_
            refine c_who hC hM ht (k_i ?_)
            refine r_icmp_eq 75 79 rfl dX10_bordersOf_72 rfl (fun c72 => ?_) (fun c72 => ?_)
            · have hp : ¬ bd_p (WH D) c w = true := by unfold bd_p; rw [hto]; simp only [Bool.and_eq_true, decide_eq_true_eq]; exact fun q => q.2.2 c72
              refine r_iconst 80 rfl 0 dX10_bordersOf_79 rfl ?_
              refine r_iadd 81 rfl dX10_bordersOf_80 ?_
              rw [show (nI (bd_n (WH D) j)) + 0 = nI ((bd_n (WH D) j) + 0) from nI_add (bd_n (WH D) j) 0]
              refine r_istore_n 82 rfl 1 [some (.ref 37), some (.int (nI ((bd_n (WH D) j) + 0))), some (.int (nI j)), some (.int (nI c)), some (.int (nI t))] dX10_bordersOf_81 rfl (by decide) rfl ?_
              refine r_iinc 85 rfl (nI (j + 1)) [some (.ref 37), some (.int (nI ((bd_n (WH D) j) + 0))), some (.int (nI (j + 1))), some (.int (nI c)), some (.int (nI t))] dX10_bordersOf_82 rfl (nI_1 _) (by decide) rfl ?_
              refine r_goto 8 dX10_bordersOf_85 rfl ?_
              refine AW.drop 3 [some (.ref 37), some (.int (nI ((bd_n (WH D) j) + 0))), some (.int (nI (j + 1))), none, some (.int (nI t))] rfl ?_
              refine AW.drop 4 [some (.ref 37), some (.int (nI ((bd_n (WH D) j) + 0))), some (.int (nI (j + 1))), none, none] rfl ?_
              rw [if_neg hp] at e1
              rw [show bd_n (WH D) j + 0 = bd_n (WH D) (j + 1) from e1.symm]
              exact ih (j + 1) (by omega)
            · have hp : bd_p (WH D) c w = true := by unfold bd_p; rw [hto]; simp only [Bool.and_eq_true, decide_eq_true_eq]; exact ⟨c48, c58, c72⟩
              refine r_iconst 76 rfl 1 dX10_bordersOf_75 rfl ?_
              refine r_goto 80 dX10_bordersOf_76 rfl ?_
              refine r_iadd 81 rfl dX10_bordersOf_80 ?_
              rw [show (nI (bd_n (WH D) j)) + 1 = nI ((bd_n (WH D) j) + 1) from nI_add (bd_n (WH D) j) 1]
              refine r_istore_n 82 rfl 1 [some (.ref 37), some (.int (nI ((bd_n (WH D) j) + 1))), some (.int (nI j)), some (.int (nI c)), some (.int (nI t))] dX10_bordersOf_81 rfl (by decide) rfl ?_
              refine r_iinc 85 rfl (nI (j + 1)) [some (.ref 37), some (.int (nI ((bd_n (WH D) j) + 1))), some (.int (nI (j + 1))), some (.int (nI c)), some (.int (nI t))] dX10_bordersOf_82 rfl (nI_1 _) (by decide) rfl ?_
              refine r_goto 8 dX10_bordersOf_85 rfl ?_
              refine AW.drop 3 [some (.ref 37), some (.int (nI ((bd_n (WH D) j) + 1))), some (.int (nI (j + 1))), none, some (.int (nI t))] rfl ?_
              refine AW.drop 4 [some (.ref 37), some (.int (nI ((bd_n (WH D) j) + 1))), some (.int (nI (j + 1))), none, none] rfl ?_
              rw [if_pos hp] at e1
              rw [show bd_n (WH D) j + 1 = bd_n (WH D) (j + 1) from e1.symm]
              exact ih (j + 1) (by omega)
      · refine r_istore 35 rfl [some (.ref 37), some (.int (nI (bd_n (WH D) j))), some (.int (nI j)), some (.int (nI c)), some (.int (-1))] dX10_bordersOf_33 (by decide) rfl ?_
        refine r_iload_n 36 rfl 1 dX10_bordersOf_35 rfl rfl ?_
        refine r_iload 38 rfl dX10_bordersOf_36 rfl ?_
        refine r_iconst 39 rfl (-1) dX10_bordersOf_38 rfl ?_
        have hp : ¬ bd_p (WH D) c w = true := by unfold bd_p; rw [hto]; exact Bool.false_ne_true
        refine r_icmp_eq 42 79 rfl dX10_bordersOf_39 rfl (fun _ => ?_) (fun q__ => absurd (by decide) q__)
        refine r_iconst 80 rfl 0 dX10_bordersOf_79 rfl ?_
        refine r_iadd 81 rfl dX10_bordersOf_80 ?_
        rw [show (nI (bd_n (WH D) j)) + 0 = nI ((bd_n (WH D) j) + 0) from nI_add (bd_n (WH D) j) 0]
        refine r_istore_n 82 rfl 1 [some (.ref 37), some (.int (nI ((bd_n (WH D) j) + 0))), some (.int (nI j)), some (.int (nI c)), some (.int (-1))] dX10_bordersOf_81 rfl (by decide) rfl ?_
        refine r_iinc 85 rfl (nI (j + 1)) [some (.ref 37), some (.int (nI ((bd_n (WH D) j) + 0))), some (.int (nI (j + 1))), some (.int (nI c)), some (.int (-1))] dX10_bordersOf_82 rfl (nI_1 _) (by decide) rfl ?_
        refine r_goto 8 dX10_bordersOf_85 rfl ?_
        refine AW.drop 3 [some (.ref 37), some (.int (nI ((bd_n (WH D) j) + 0))), some (.int (nI (j + 1))), none, some (.int (-1))] rfl ?_
        refine AW.drop 4 [some (.ref 37), some (.int (nI ((bd_n (WH D) j) + 0))), some (.int (nI (j + 1))), none, none] rfl ?_
        rw [if_neg hp] at e1
        rw [show bd_n (WH D) j + 0 = bd_n (WH D) (j + 1) from e1.symm]
        exact ih (j + 1) (by omega)
    refine r_iload_n 9 rfl 2 dX10_bordersOf_8 rfl rfl ?_
    refine r_bipush 11 rfl 16 dX10_bordersOf_9 (by decide) ?_
    refine r_icmp_ge 14 88 rfl dX10_bordersOf_11 rfl (fun q__ => absurd q__ (fun q__ => absurd ((nI_leI (a := 16) (b := j) (by omega) (by omega)).mp q__) (by omega))) (fun _ => ?_)
    refine r_iload_n 15 rfl 2 dX10_bordersOf_14 rfl rfl ?_
    refine r_iconst 16 rfl 2 dX10_bordersOf_15 rfl ?_
    refine r_idiv 17 rfl dX10_bordersOf_16 (by decide) ?_
    rw [show (nI j) / 2 = nI (j / 2) from pk_div (a := j) (d := 2) (by omega) (by decide) (by decide)]
    refine r_istore_n 18 rfl 3 [some (.ref 37), some (.int (nI (bd_n (WH D) j))), some (.int (nI j)), some (.int (nI (j / 2))), none] dX10_bordersOf_17 rfl (by decide) rfl ?_
    refine r_iload_n 19 rfl 3 dX10_bordersOf_18 rfl rfl ?_
    refine r_iload_n 20 rfl 2 dX10_bordersOf_19 rfl rfl ?_
    refine r_iconst 21 rfl 2 dX10_bordersOf_20 rfl ?_
    refine r_irem 22 rfl dX10_bordersOf_21 (by decide) ?_
    rw [show (nI j) - (nI j) / 2 * 2 = nI (j % 2) from pk_rem (a := j) (d := 2) (by omega) (by decide) (by decide)]
    refine r_if_ne 25 29 rfl dX10_bordersOf_22 rfl (fun c22 => ?_) (fun c22 => ?_)
    · replace c22 : ¬ (j % 2) = 0 := fun q__ => c22 ((nI_eq (a := (j % 2)) (b := 0) (by omega) (by omega)).mpr q__)
      refine r_iconst 30 rfl 3 dX10_bordersOf_29 rfl ?_
      exact key 3 (Or.inr rfl) (by rw [if_neg (by omega)])
    · replace c22 : j % 2 = 0 := (nI_eq (a := (j % 2)) (b := 0) (by omega) (by omega)).mp c22
      refine r_iconst 26 rfl 1 dX10_bordersOf_25 rfl ?_
      refine r_goto 30 dX10_bordersOf_26 rfl ?_
      exact key 1 (Or.inl rfl) (by rw [if_pos (by omega)])
set_option maxHeartbeats 4000000 in
set_option maxRecDepth 20000 in
theorem c_bordersOf {Q : am_P} {z : am_Z} {m : Nat → Nat → Int32} {n : Nat} {D : Nat → Nat → Nat} (hC : C10 m D) (k : ∀ m', MIR m' D → ag [43, 44, 45] m m' → Q (some (.int (nI (bd_n (WH D) 16)))) (wd z m') n) : AW mX10_bordersOf Q 0 (am_ent (am_l mX10_bordersOf) [.ref 37]) [] (wd z m) n 0 0 := by
  show AW _ _ 0 [some (.ref 37), none, none, none, none] [] _ _ 0 0
  refine r_aload_n 1 rfl 0 dX10_bordersOf_0 rfl rfl ?_
  refine q_V 4 0 0 rfl [] rfl dX10_bordersOf_1 cl_X10_bordersOf__X10_layCells (lk_X10_149 rfl) im_X10_layCells (ci := 10) rfl sl_X10__X10_layCells rfl (Nat.le_of_ble_eq_true rfl) (fun _ _ => Nat.le_of_ble_eq_true rfl) rfl rfl (Nat.le_of_ble_eq_true rfl) (Nat.le_of_ble_eq_true rfl) ?_
  refine c_layC hC (fun m' hM hag => (k_v ?_))
  refine r_iconst 5 rfl 0 dX10_bordersOf_4 rfl ?_
  refine r_istore_n 6 rfl 1 [some (.ref 37), some (.int 0), none, none, none] dX10_bordersOf_5 rfl (by decide) rfl ?_
  refine r_iconst 7 rfl 0 dX10_bordersOf_6 rfl ?_
  refine r_istore_n 8 rfl 2 [some (.ref 37), some (.int 0), some (.int 0), none, none] dX10_bordersOf_7 rfl (by decide) rfl ?_
  exact lp_bordersOf (C10_ag hC hag (by decide)) hM (k m' hM hag) 16 0 rfl

set_option maxHeartbeats 4000000 in
set_option maxRecDepth 20000 in
theorem c9_borders {Q : am_P} {z : am_Z} {m : Nat → Nat → Int32} {n : Nat} {D : Nat → Nat → Nat} (hC : C9 z m D) (k : ∀ m', ag [29, 30, 31, 32] m m' → Q (some (.int (nI (bd_n (WH D) 16)))) (wd z m') n) : AW mX9_borders Q 0 (am_ent (am_l mX9_borders) [.ref 1]) [] (wd z m) n 0 0 := by
  show AW _ _ 0 [some (.ref 1)] [] _ _ 0 0
  refine r_aload_n 1 rfl 0 dX9_borders_0 rfl rfl ?_
  refine q_V 4 0 0 rfl [] rfl dX9_borders_1 cl_X9_borders__X9_settleNow (lk_X9_103 rfl) im_X9_settleNow (ci := 9) rfl sl_X9__X9_settleNow rfl (Nat.le_of_ble_eq_true rfl) (fun _ _ => Nat.le_of_ble_eq_true rfl) rfl rfl (Nat.le_of_ble_eq_true rfl) (Nat.le_of_ble_eq_true rfl) ?_
  refine c_settleNow hC (fun m' hA hag => (k_v ?_))
  refine r_aload_n 5 rfl 0 dX9_borders_4 rfl rfl ?_
  refine r_getf (v := .ref 28) (k := 6) 8 rfl dX9_borders_5 (gf_X9_45_9 rfl) rfl rfl ?_
  refine q_V 11 0 0 rfl [] rfl dX9_borders_8 cl_X9_borders__X0_countBorders (lk_X9_110 rfl) im_X0_countBorders (ci := 0) rfl sl_X0__X0_countBorders rfl (Nat.le_of_ble_eq_true rfl) (fun _ _ => Nat.le_of_ble_eq_true rfl) rfl rfl (Nat.le_of_ble_eq_true rfl) (Nat.le_of_ble_eq_true rfl) ?_
  refine c_countBorders (fun j hj => (hA j hj).2.2) (k_i ?_)
  refine r_ireturn rfl dX9_borders_11 (Nat.le_of_ble_eq_true rfl) (Nat.le_of_ble_eq_true rfl) ?_
  exact k m' hag

set_option maxHeartbeats 4000000 in
set_option maxRecDepth 20000 in
theorem c10_borders_t {Q : am_P} {z : am_Z} {m : Nat → Nat → Int32} {n : Nat} {D : Nat → Nat → Nat} (hC : C10 m D) (hf1 : 1 ≤ D 7 0) (k : ∀ m', ag [43, 44, 45] m m' → Q (some (.int (nI (bd_n (WH D) 16)))) (wd z m') n) : AW mX10_borders Q 0 (am_ent (am_l mX10_borders) [.ref 37]) [] (wd z m) n 0 0 := by
  show AW _ _ 0 [some (.ref 37)] [] _ _ 0 0
  obtain ⟨hg, hfd, hf3, hf0, hns, hn7, hmr, hwi, hw4, hfr, hr1, hhr, hh⟩ := id hC
  refine r_aload_n 1 rfl 0 dX10_borders_0 rfl rfl ?_
  refine q_V 4 0 0 rfl [] rfl dX10_borders_1 cl_X10_borders__X10_lacks (lk_X10_109 rfl) im_X10_lacks (ci := 10) rfl sl_X10__X10_lacks rfl (Nat.le_of_ble_eq_true rfl) (fun _ _ => Nat.le_of_ble_eq_true rfl) rfl rfl (Nat.le_of_ble_eq_true rfl) (Nat.le_of_ble_eq_true rfl) ?_
  refine c_lacks_f hfd hf1 hf3 (k_i ?_)
  refine r_if_eq 7 11 rfl dX10_borders_4 rfl (fun _ => ?_) (fun q__ => absurd (by decide) q__)
  refine r_aload_n 12 rfl 0 dX10_borders_11 rfl rfl ?_
  refine q_V 15 0 0 rfl [] rfl dX10_borders_12 cl_X10_borders__X10_bordersOf (lk_X10_158 rfl) im_X10_bordersOf (ci := 10) rfl sl_X10__X10_bordersOf rfl (Nat.le_of_ble_eq_true rfl) (fun _ _ => Nat.le_of_ble_eq_true rfl) rfl rfl (Nat.le_of_ble_eq_true rfl) (Nat.le_of_ble_eq_true rfl) ?_
  refine c_bordersOf hC (fun m' hM hag => (k_i ?_))
  refine r_ireturn rfl dX10_borders_15 (Nat.le_of_ble_eq_true rfl) (Nat.le_of_ble_eq_true rfl) ?_
  exact k m' hag

set_option maxHeartbeats 4000000 in
set_option maxRecDepth 20000 in
theorem c10_borders_f {Q : am_P} {z : am_Z} {m : Nat → Nat → Int32} {n : Nat} (hfd : m 37 2 = nI 0) (k : Q (some (.int 0)) (wd z m) n) : AW mX10_borders Q 0 (am_ent (am_l mX10_borders) [.ref 37]) [] (wd z m) n 0 0 := by
  show AW _ _ 0 [some (.ref 37)] [] _ _ 0 0
  refine r_aload_n 1 rfl 0 dX10_borders_0 rfl rfl ?_
  refine q_V 4 0 0 rfl [] rfl dX10_borders_1 cl_X10_borders__X10_lacks (lk_X10_109 rfl) im_X10_lacks (ci := 10) rfl sl_X10__X10_lacks rfl (Nat.le_of_ble_eq_true rfl) (fun _ _ => Nat.le_of_ble_eq_true rfl) rfl rfl (Nat.le_of_ble_eq_true rfl) (Nat.le_of_ble_eq_true rfl) ?_
  refine c_lacks_t hfd (k_i ?_)
  refine r_if_eq 7 11 rfl dX10_borders_4 rfl (fun q__ => absurd q__ (by decide)) (fun _ => ?_)
  refine r_iconst 8 rfl 0 dX10_borders_7 rfl ?_
  refine r_goto 15 dX10_borders_8 rfl ?_
  refine r_ireturn rfl dX10_borders_15 (Nat.le_of_ble_eq_true rfl) (Nat.le_of_ble_eq_true rfl) ?_
  exact k
