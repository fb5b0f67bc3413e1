theorem AW.drop (j : Nat) {M : am_M} {Q : am_P} {pc : Nat} {lv : List (Option Value)} {st : List Value} {h : Nat → am_E} {n cu su : Nat} (lv' : List (Option Value)) (hl : lv.set j none = lv') (k : AW M Q pc lv' st h n cu su) : AW M Q pc lv st h n cu su := by
  subst hl
  refine AW.sub (fun i v hi => ?_) k
  by_cases hij : i = j
  · subst hij
    cases am_gs hi
  · rwa [List.getElem?_set_ne (Ne.symm hij)] at hi

set_option maxHeartbeats 4000000 in
set_option maxRecDepth 20000 in
theorem c_X7_beside {Q : am_P} {h : Nat → am_E} {n : Nat} {c w : Nat} (hc : c < 8) (hw1 : 1 ≤ w) (hw4 : w ≤ 4) (k1 : ∀ t, sp_to c w = some t → t < 8 → Q (some (.int (nI t))) h n) (k0 : sp_to c w = none → Q (some (.int (-1))) h n) : AW mX7_beside Q 0 (am_ent (am_l mX7_beside) [.int (nI c), .int (nI w)]) [] h n 0 0 := by
  show AW _ _ 0 [some (.int (nI c)), some (.int (nI w))] [] _ _ 0 0
  rcases (show w = 1 ∨ w = 2 ∨ w = 3 ∨ w = 4 by omega) with rfl | rfl | rfl | rfl
  · refine r_iload_n 1 rfl 1 dX7_beside_0 rfl rfl ?_
    refine r_tabIn 32 dX7_beside_1 (by decide) (by decide) rfl rfl ?_
    refine r_iload_n 33 rfl 0 dX7_beside_32 rfl rfl ?_
    refine r_iconst 34 rfl 4 dX7_beside_33 rfl ?_
    refine r_irem 35 rfl dX7_beside_34 (by decide) ?_
    rw [show (nI c) - (nI c) / 4 * 4 = nI (c % 4) from pk_rem (a := c) (d := 4) (by omega) (by decide) (by decide)]
    refine r_iconst 36 rfl 3 dX7_beside_35 rfl ?_
    refine r_icmp_ge 39 45 rfl dX7_beside_36 rfl (fun c36 => ?_) (fun c36 => ?_)
    · replace c36 : 3 ≤ c % 4 := (nI_leI (a := 3) (b := (c % 4)) (by omega) (by omega)).mp c36
      refine r_iconst 46 rfl (-1) dX7_beside_45 rfl ?_
      refine r_ireturn rfl dX7_beside_46 (Nat.le_of_ble_eq_true rfl) (Nat.le_of_ble_eq_true rfl) ?_
      exact k0 (by simp [sp_to, *]; try omega)
    · replace c36 : ¬ 3 ≤ (c % 4) := fun q__ => c36 ((nI_leI (a := 3) (b := (c % 4)) (by omega) (by omega)).mpr q__)
      refine r_iload_n 40 rfl 0 dX7_beside_39 rfl rfl ?_
      refine r_iconst 41 rfl 1 dX7_beside_40 rfl ?_
      refine r_iadd 42 rfl dX7_beside_41 ?_
      rw [show (nI c) + 1 = nI (c + 1) from nI_add c 1]
      refine r_goto 46 dX7_beside_42 rfl ?_
      refine r_ireturn rfl dX7_beside_46 (Nat.le_of_ble_eq_true rfl) (Nat.le_of_ble_eq_true rfl) ?_
      exact k1 _ (by simp [sp_to, *]) (by omega)
  · refine r_iload_n 1 rfl 1 dX7_beside_0 rfl rfl ?_
    refine r_tabIn 47 dX7_beside_1 (by decide) (by decide) rfl rfl ?_
    refine r_iload_n 48 rfl 0 dX7_beside_47 rfl rfl ?_
    refine r_iconst 49 rfl 4 dX7_beside_48 rfl ?_
    refine r_irem 50 rfl dX7_beside_49 (by decide) ?_
    rw [show (nI c) - (nI c) / 4 * 4 = nI (c % 4) from pk_rem (a := c) (d := 4) (by omega) (by decide) (by decide)]
    refine r_if_le 53 59 rfl dX7_beside_50 rfl (fun c50 => ?_) (fun c50 => ?_)
    · replace c50 : c % 4 ≤ 0 := (nI_leI (a := (c % 4)) (b := 0) (by omega) (by omega)).mp c50
      refine r_iconst 60 rfl (-1) dX7_beside_59 rfl ?_
      refine r_ireturn rfl dX7_beside_60 (Nat.le_of_ble_eq_true rfl) (Nat.le_of_ble_eq_true rfl) ?_
      exact k0 (by simp [sp_to, *]; try omega)
    · replace c50 : ¬ (c % 4) ≤ 0 := fun q__ => c50 ((nI_leI (a := (c % 4)) (b := 0) (by omega) (by omega)).mpr q__)
      refine r_iload_n 54 rfl 0 dX7_beside_53 rfl rfl ?_
      refine r_iconst 55 rfl 1 dX7_beside_54 rfl ?_
      refine r_isub 56 rfl dX7_beside_55 ?_
      refine r_goto 60 dX7_beside_56 rfl ?_
      refine r_ireturn rfl dX7_beside_60 (Nat.le_of_ble_eq_true rfl) (Nat.le_of_ble_eq_true rfl) ?_
      rw [show (nI c) - 1 = nI (c - 1) from pk_sub (show 1 ≤ c by omega)]
      exact k1 _ (by simp [sp_to, *]; try omega) (by omega)
  · refine r_iload_n 1 rfl 1 dX7_beside_0 rfl rfl ?_
    refine r_tabIn 61 dX7_beside_1 (by decide) (by decide) rfl rfl ?_
    refine r_iload_n 62 rfl 0 dX7_beside_61 rfl rfl ?_
    refine r_iconst 63 rfl 4 dX7_beside_62 rfl ?_
    refine r_icmp_ge 66 72 rfl dX7_beside_63 rfl (fun c63 => ?_) (fun c63 => ?_)
    · replace c63 : 4 ≤ c := (nI_leI (a := 4) (b := c) (by omega) (by omega)).mp c63
      refine r_iconst 73 rfl (-1) dX7_beside_72 rfl ?_
      refine r_ireturn rfl dX7_beside_73 (Nat.le_of_ble_eq_true rfl) (Nat.le_of_ble_eq_true rfl) ?_
      exact k0 (by simp [sp_to, *]; try omega)
    · replace c63 : ¬ 4 ≤ c := fun q__ => c63 ((nI_leI (a := 4) (b := c) (by omega) (by omega)).mpr q__)
      refine r_iload_n 67 rfl 0 dX7_beside_66 rfl rfl ?_
      refine r_iconst 68 rfl 4 dX7_beside_67 rfl ?_
      refine r_iadd 69 rfl dX7_beside_68 ?_
      rw [show (nI c) + 4 = nI (c + 4) from nI_add c 4]
      refine r_goto 73 dX7_beside_69 rfl ?_
      refine r_ireturn rfl dX7_beside_73 (Nat.le_of_ble_eq_true rfl) (Nat.le_of_ble_eq_true rfl) ?_
      exact k1 _ (by simp [sp_to, *]) (by omega)
  · refine r_iload_n 1 rfl 1 dX7_beside_0 rfl rfl ?_
    refine r_tabIn 74 dX7_beside_1 (by decide) (by decide) rfl rfl ?_
    refine r_iload_n 75 rfl 0 dX7_beside_74 rfl rfl ?_
    refine r_iconst 76 rfl 4 dX7_beside_75 rfl ?_
    refine r_icmp_lt 79 85 rfl dX7_beside_76 rfl (fun c76 => ?_) (fun c76 => ?_)
    · replace c76 : c < 4 := (nI_ltI (a := c) (b := 4) (by omega) (by omega)).mp c76
      refine r_iconst 86 rfl (-1) dX7_beside_85 rfl ?_
      refine r_ireturn rfl dX7_beside_86 (Nat.le_of_ble_eq_true rfl) (Nat.le_of_ble_eq_true rfl) ?_
      exact k0 (by simp [sp_to, *]; try omega)
    · replace c76 : ¬ c < 4 := fun q__ => c76 ((nI_ltI (a := c) (b := 4) (by omega) (by omega)).mpr q__)
      refine r_iload_n 80 rfl 0 dX7_beside_79 rfl rfl ?_
      refine r_iconst 81 rfl 4 dX7_beside_80 rfl ?_
      refine r_isub 82 rfl dX7_beside_81 ?_
      refine r_goto 86 dX7_beside_82 rfl ?_
      refine r_ireturn rfl dX7_beside_86 (Nat.le_of_ble_eq_true rfl) (Nat.le_of_ble_eq_true rfl) ?_
      rw [show (nI c) - 4 = nI (c - 4) from pk_sub (show 4 ≤ c by omega)]
      exact k1 _ (by simp [sp_to, *]; try omega) (by omega)

set_option maxHeartbeats 4000000 in
set_option maxRecDepth 20000 in
theorem c_X7_opposite {Q : am_P} {h : Nat → am_E} {n : Nat} {w : Nat} (hw1 : 1 ≤ w) (hw4 : w ≤ 4) (k : Q (some (.int (nI (sp_opp w)))) h n) : AW mX7_opposite Q 0 (am_ent (am_l mX7_opposite) [.int (nI w)]) [] (h) n 0 0 := by
  show AW _ _ 0 [some (.int (nI w))] [] _ _ 0 0
  refine r_iload_n 1 rfl 0 dX7_opposite_0 rfl rfl ?_
  refine r_iconst 2 rfl 2 dX7_opposite_1 rfl ?_
  refine r_irem 3 rfl dX7_opposite_2 (by decide) ?_
  rw [show (nI w) - (nI w) / 2 * 2 = nI (w % 2) from pk_rem (a := w) (d := 2) (by omega) (by decide) (by decide)]
  refine r_iconst 4 rfl 1 dX7_opposite_3 rfl ?_
  refine r_icmp_ne 7 13 rfl dX7_opposite_4 rfl (fun c4 => ?_) (fun c4 => ?_)
  · replace c4 : ¬ (w % 2) = 1 := fun q__ => c4 ((nI_eq (a := (w % 2)) (b := 1) (by omega) (by omega)).mpr q__)
    refine r_iload_n 14 rfl 0 dX7_opposite_13 rfl rfl ?_
    refine r_iconst 15 rfl 1 dX7_opposite_14 rfl ?_
    refine r_isub 16 rfl dX7_opposite_15 ?_
    refine r_ireturn rfl dX7_opposite_16 (Nat.le_of_ble_eq_true rfl) (Nat.le_of_ble_eq_true rfl) ?_
    unfold sp_opp at k
    rw [if_neg (by omega)] at k
    rw [show (nI w) - 1 = nI (w - 1) from pk_sub (show 1 ≤ w by omega)]
    exact k
  · replace c4 : w % 2 = 1 := (nI_eq (a := (w % 2)) (b := 1) (by omega) (by omega)).mp c4
    refine r_iload_n 8 rfl 0 dX7_opposite_7 rfl rfl ?_
    refine r_iconst 9 rfl 1 dX7_opposite_8 rfl ?_
    refine r_iadd 10 rfl dX7_opposite_9 ?_
    rw [show (nI w) + 1 = nI (w + 1) from nI_add w 1]
    refine r_goto 16 dX7_opposite_10 rfl ?_
    refine r_ireturn rfl dX7_opposite_16 (Nat.le_of_ble_eq_true rfl) (Nat.le_of_ble_eq_true rfl) ?_
    unfold sp_opp at k
    rw [if_pos (by omega)] at k
    exact k

set_option maxHeartbeats 4000000 in
set_option maxRecDepth 20000 in
theorem c_X7_isWall {Q : am_P} {z : am_Z} {m : Nat → Nat → Int32} {n : Nat} (g : Nat → Nat) (hg : ∀ j, j < 8 → m 5 j = nI (g j) ∧ g j ≤ 2) {c : Nat} (hc : c < 8) (k1 : g c = 1 → Q (some (.int 1)) (wd z m) n) (k0 : ¬ g c = 1 → Q (some (.int 0)) (wd z m) n) : AW mX7_isWall Q 0 (am_ent (am_l mX7_isWall) [.ref 4, .int (nI c)]) [] (wd z m) n 0 0 := by
  show AW _ _ 0 [some (.ref 4), some (.int (nI c))] [] _ _ 0 0
  have hb := (hg c hc).2
  refine r_aload_n 1 rfl 0 dX7_isWall_0 rfl rfl ?_
  refine r_getf (v := .ref 5) (k := 0) 4 rfl dX7_isWall_1 (gf_X7_9_7 rfl) rfl rfl ?_
  refine r_iload_n 5 rfl 1 dX7_isWall_4 rfl rfl ?_
  refine r_iald (f := m 5) 6 rfl c dX7_isWall_5 rfl rfl (by omega) (by decide) ?_
  rw [show (m 5) c = nI (g c) from (hg c hc).1]
  refine r_iconst 7 rfl 1 dX7_isWall_6 rfl ?_
  refine r_icmp_ne 10 14 rfl dX7_isWall_7 rfl (fun c7 => ?_) (fun c7 => ?_)
  · replace c7 : ¬ (g c) = 1 := fun q__ => c7 ((nI_eq (a := (g c)) (b := 1) (by omega) (by omega)).mpr q__)
    refine r_iconst 15 rfl 0 dX7_isWall_14 rfl ?_
    refine r_zreturn rfl rfl dX7_isWall_15 (Nat.le_of_ble_eq_true rfl) (Nat.le_of_ble_eq_true rfl) ?_
    exact k0 c7
  · replace c7 : g c = 1 := (nI_eq (a := (g c)) (b := 1) (by omega) (by omega)).mp c7
    refine r_iconst 11 rfl 1 dX7_isWall_10 rfl ?_
    refine r_goto 15 dX7_isWall_11 rfl ?_
    refine r_zreturn rfl rfl dX7_isWall_15 (Nat.le_of_ble_eq_true rfl) (Nat.le_of_ble_eq_true rfl) ?_
    exact k1 c7

set_option maxHeartbeats 4000000 in
set_option maxRecDepth 20000 in
theorem c_X7_isOpen {Q : am_P} {z : am_Z} {m : Nat → Nat → Int32} {n : Nat} (g : Nat → Nat) (hg : ∀ j, j < 8 → m 5 j = nI (g j) ∧ g j ≤ 2) {c : Nat} (hc : c < 8) (k1 : g c = 0 → Q (some (.int 1)) (wd z m) n) (k0 : ¬ g c = 0 → Q (some (.int 0)) (wd z m) n) : AW mX7_isOpen Q 0 (am_ent (am_l mX7_isOpen) [.ref 4, .int (nI c)]) [] (wd z m) n 0 0 := by
  show AW _ _ 0 [some (.ref 4), some (.int (nI c))] [] _ _ 0 0
  have hb := (hg c hc).2
  refine r_aload_n 1 rfl 0 dX7_isOpen_0 rfl rfl ?_
  refine r_getf (v := .ref 5) (k := 0) 4 rfl dX7_isOpen_1 (gf_X7_9_7 rfl) rfl rfl ?_
  refine r_iload_n 5 rfl 1 dX7_isOpen_4 rfl rfl ?_
  refine r_iald (f := m 5) 6 rfl c dX7_isOpen_5 rfl rfl (by omega) (by decide) ?_
  rw [show (m 5) c = nI (g c) from (hg c hc).1]
  refine r_if_ne 9 13 rfl dX7_isOpen_6 rfl (fun c6 => ?_) (fun c6 => ?_)
  · replace c6 : ¬ (g c) = 0 := fun q__ => c6 ((nI_eq (a := (g c)) (b := 0) (by omega) (by omega)).mpr q__)
    refine r_iconst 14 rfl 0 dX7_isOpen_13 rfl ?_
    refine r_zreturn rfl rfl dX7_isOpen_14 (Nat.le_of_ble_eq_true rfl) (Nat.le_of_ble_eq_true rfl) ?_
    exact k0 c6
  · replace c6 : g c = 0 := (nI_eq (a := (g c)) (b := 0) (by omega) (by omega)).mp c6
    refine r_iconst 10 rfl 1 dX7_isOpen_9 rfl ?_
    refine r_goto 14 dX7_isOpen_10 rfl ?_
    refine r_zreturn rfl rfl dX7_isOpen_14 (Nat.le_of_ble_eq_true rfl) (Nat.le_of_ble_eq_true rfl) ?_
    exact k1 c6

set_option maxHeartbeats 4000000 in
set_option maxRecDepth 20000 in
theorem c_X7_loss {Q : am_P} {z : am_Z} {m : Nat → Nat → Int32} {n : Nat} (g : Nat → Nat) (hg : ∀ j, j < 8 → m 5 j = nI (g j) ∧ g j ≤ 2) {fd : Nat} (hfd : m 4 2 = nI fd) (hf1 : 1 ≤ fd) (hf3 : fd ≤ 3) {t w ea wi : Nat} (ht : t < 8) (hw1 : 1 ≤ w) (hw4 : w ≤ 4) (hea : ea ≤ 1) (hwi : wi ≤ 4) (k : Q (some (.int (nI (sp_loss fd ea wi w (g t))))) (wd z m) n) : AW mX7_loss Q 0 (am_ent (am_l mX7_loss) [.ref 4, .int (nI t), .int (nI w), .int (nI ea), .int (nI wi)]) [] (wd z m) n 0 0 := by
  show AW _ _ 0 [some (.ref 4), some (.int (nI t)), some (.int (nI w)), some (.int (nI ea)), some (.int (nI wi)), none] [] _ _ 0 0
  have hb := (hg t ht).2
  have ho : sp_opp w ≤ 5 := by unfold sp_opp; split <;> omega
  refine r_aload_n 1 rfl 0 dX7_loss_0 rfl rfl ?_
  refine r_getf (v := .int ((m 4) 2)) (k := 2) 4 rfl dX7_loss_1 (gf_X7_15_7 rfl) rfl rfl ?_
  rw [show (m 4) 2 = nI fd from hfd]
  refine r_iload_n 5 rfl 3 dX7_loss_4 rfl rfl ?_
  refine r_isub 6 rfl dX7_loss_5 ?_
  refine r_istore 8 rfl [some (.ref 4), some (.int (nI t)), some (.int (nI w)), some (.int (nI ea)), some (.int (nI wi)), some (.int ((nI fd) - (nI ea)))] dX7_loss_6 (by decide) rfl ?_
  refine r_iload 10 rfl dX7_loss_8 rfl ?_
  refine r_iload_n 11 rfl 2 dX7_loss_10 rfl rfl ?_
  refine r_icmp_ne 14 17 rfl dX7_loss_11 rfl (fun c11 => ?_) (fun c11 => ?_)
  · replace c11 : ¬ wi = w := fun q__ => c11 ((nI_eq (a := wi) (b := w) (by omega) (by omega)).mpr q__)
    refine r_iload 19 rfl dX7_loss_17 rfl ?_
    refine r_iload_n 20 rfl 2 dX7_loss_19 rfl rfl ?_
    refine q_S 23 0 0 rfl [.int (nI w)] rfl dX7_loss_20 cl_X7_loss__X7_opposite (lk_X7_31 rfl) st_X7_opposite (Nat.le_of_ble_eq_true rfl) (fun _ _ => Nat.le_of_ble_eq_true rfl) rfl rfl (Nat.le_of_ble_eq_true rfl) (Nat.le_of_ble_eq_true rfl) ?_
    refine c_X7_opposite hw1 hw4 (k_i ?_)
    refine r_icmp_ne 26 29 rfl dX7_loss_23 rfl (fun c23 => ?_) (fun c23 => ?_)
    · replace c23 : ¬ wi = (sp_opp w) := fun q__ => c23 ((nI_eq (a := wi) (b := (sp_opp w)) (by omega) (by omega)).mpr q__)
      refine r_aload_n 30 rfl 0 dX7_loss_29 rfl rfl ?_
      refine r_getf (v := .ref 5) (k := 0) 33 rfl dX7_loss_30 (gf_X7_9_7 rfl) rfl rfl ?_
      refine r_iload_n 34 rfl 1 dX7_loss_33 rfl rfl ?_
      refine r_iald (f := m 5) 35 rfl t dX7_loss_34 rfl rfl (by omega) (by decide) ?_
      rw [show (m 5) t = nI (g t) from (hg t ht).1]
      refine r_iconst 36 rfl 2 dX7_loss_35 rfl ?_
      refine r_icmp_ne 39 42 rfl dX7_loss_36 rfl (fun c36 => ?_) (fun c36 => ?_)
      · replace c36 : ¬ (g t) = 2 := fun q__ => c36 ((nI_eq (a := (g t)) (b := 2) (by omega) (by omega)).mpr q__)
        refine r_iload 44 rfl dX7_loss_42 rfl ?_
        refine r_iconst 45 rfl 0 dX7_loss_44 rfl ?_
        refine r_max 48 rfl dX7_loss_45 (lk_X7_34 rfl) (by decide) (Nat.le_of_ble_eq_true rfl) (Nat.le_of_ble_eq_true rfl) (Nat.le_of_ble_eq_true rfl) ?_
        refine r_ireturn rfl dX7_loss_48 (Nat.le_of_ble_eq_true rfl) (Nat.le_of_ble_eq_true rfl) ?_
        have e : (if (nI fd) - (nI ea) < 0 then 0 else (nI fd) - (nI ea)) = nI (sp_loss fd ea wi w (g t)) := by
          unfold sp_loss
          first | rw [if_pos c11] | rw [if_neg c11]
          first | rw [if_pos c23] | rw [if_neg c23]
          first | rw [if_pos c36] | rw [if_neg c36]
          rcases (show fd = 1 ∨ fd = 2 ∨ fd = 3 by omega) with rfl | rfl | rfl <;> rcases (show ea = 0 ∨ ea = 1 by omega) with rfl | rfl <;> decide +kernel
        rw [e]
        exact k
      · replace c36 : g t = 2 := (nI_eq (a := (g t)) (b := 2) (by omega) (by omega)).mp c36
        refine r_iinc 42 rfl ((nI fd) - (nI ea) + 2) [some (.ref 4), some (.int (nI t)), some (.int (nI w)), some (.int (nI ea)), some (.int (nI wi)), some (.int ((nI fd) - (nI ea) + 2))] dX7_loss_39 rfl rfl (by decide) rfl ?_
        refine r_iload 44 rfl dX7_loss_42 rfl ?_
        refine r_iconst 45 rfl 0 dX7_loss_44 rfl ?_
        refine r_max 48 rfl dX7_loss_45 (lk_X7_34 rfl) (by decide) (Nat.le_of_ble_eq_true rfl) (Nat.le_of_ble_eq_true rfl) (Nat.le_of_ble_eq_true rfl) ?_
        refine r_ireturn rfl dX7_loss_48 (Nat.le_of_ble_eq_true rfl) (Nat.le_of_ble_eq_true rfl) ?_
        have e : (if (nI fd) - (nI ea) + 2 < 0 then 0 else (nI fd) - (nI ea) + 2) = nI (sp_loss fd ea wi w (g t)) := by
          unfold sp_loss
          first | rw [if_pos c11] | rw [if_neg c11]
          first | rw [if_pos c23] | rw [if_neg c23]
          first | rw [if_pos c36] | rw [if_neg c36]
          rcases (show fd = 1 ∨ fd = 2 ∨ fd = 3 by omega) with rfl | rfl | rfl <;> rcases (show ea = 0 ∨ ea = 1 by omega) with rfl | rfl <;> decide +kernel
        rw [e]
        exact k
    · replace c23 : wi = sp_opp w := (nI_eq (a := wi) (b := (sp_opp w)) (by omega) (by omega)).mp c23
      refine r_iinc 29 rfl ((nI fd) - (nI ea) + 1) [some (.ref 4), some (.int (nI t)), some (.int (nI w)), some (.int (nI ea)), some (.int (nI wi)), some (.int ((nI fd) - (nI ea) + 1))] dX7_loss_26 rfl rfl (by decide) rfl ?_
      refine r_aload_n 30 rfl 0 dX7_loss_29 rfl rfl ?_
      refine r_getf (v := .ref 5) (k := 0) 33 rfl dX7_loss_30 (gf_X7_9_7 rfl) rfl rfl ?_
      refine r_iload_n 34 rfl 1 dX7_loss_33 rfl rfl ?_
      refine r_iald (f := m 5) 35 rfl t dX7_loss_34 rfl rfl (by omega) (by decide) ?_
      rw [show (m 5) t = nI (g t) from (hg t ht).1]
      refine r_iconst 36 rfl 2 dX7_loss_35 rfl ?_
      refine r_icmp_ne 39 42 rfl dX7_loss_36 rfl (fun c36 => ?_) (fun c36 => ?_)
      · replace c36 : ¬ (g t) = 2 := fun q__ => c36 ((nI_eq (a := (g t)) (b := 2) (by omega) (by omega)).mpr q__)
        refine r_iload 44 rfl dX7_loss_42 rfl ?_
        refine r_iconst 45 rfl 0 dX7_loss_44 rfl ?_
        refine r_max 48 rfl dX7_loss_45 (lk_X7_34 rfl) (by decide) (Nat.le_of_ble_eq_true rfl) (Nat.le_of_ble_eq_true rfl) (Nat.le_of_ble_eq_true rfl) ?_
        refine r_ireturn rfl dX7_loss_48 (Nat.le_of_ble_eq_true rfl) (Nat.le_of_ble_eq_true rfl) ?_
        have e : (if (nI fd) - (nI ea) + 1 < 0 then 0 else (nI fd) - (nI ea) + 1) = nI (sp_loss fd ea wi w (g t)) := by
          unfold sp_loss
          first | rw [if_pos c11] | rw [if_neg c11]
          first | rw [if_pos c23] | rw [if_neg c23]
          first | rw [if_pos c36] | rw [if_neg c36]
          rcases (show fd = 1 ∨ fd = 2 ∨ fd = 3 by omega) with rfl | rfl | rfl <;> rcases (show ea = 0 ∨ ea = 1 by omega) with rfl | rfl <;> decide +kernel
        rw [e]
        exact k
      · replace c36 : g t = 2 := (nI_eq (a := (g t)) (b := 2) (by omega) (by omega)).mp c36
        refine r_iinc 42 rfl ((nI fd) - (nI ea) + 1 + 2) [some (.ref 4), some (.int (nI t)), some (.int (nI w)), some (.int (nI ea)), some (.int (nI wi)), some (.int ((nI fd) - (nI ea) + 1 + 2))] dX7_loss_39 rfl rfl (by decide) rfl ?_
        refine r_iload 44 rfl dX7_loss_42 rfl ?_
        refine r_iconst 45 rfl 0 dX7_loss_44 rfl ?_
        refine r_max 48 rfl dX7_loss_45 (lk_X7_34 rfl) (by decide) (Nat.le_of_ble_eq_true rfl) (Nat.le_of_ble_eq_true rfl) (Nat.le_of_ble_eq_true rfl) ?_
        refine r_ireturn rfl dX7_loss_48 (Nat.le_of_ble_eq_true rfl) (Nat.le_of_ble_eq_true rfl) ?_
        have e : (if (nI fd) - (nI ea) + 1 + 2 < 0 then 0 else (nI fd) - (nI ea) + 1 + 2) = nI (sp_loss fd ea wi w (g t)) := by
          unfold sp_loss
          first | rw [if_pos c11] | rw [if_neg c11]
          first | rw [if_pos c23] | rw [if_neg c23]
          first | rw [if_pos c36] | rw [if_neg c36]
          rcases (show fd = 1 ∨ fd = 2 ∨ fd = 3 by omega) with rfl | rfl | rfl <;> rcases (show ea = 0 ∨ ea = 1 by omega) with rfl | rfl <;> decide +kernel
        rw [e]
        exact k
  · replace c11 : wi = w := (nI_eq (a := wi) (b := w) (by omega) (by omega)).mp c11
    refine r_iinc 17 rfl ((nI fd) - (nI ea) + (-1)) [some (.ref 4), some (.int (nI t)), some (.int (nI w)), some (.int (nI ea)), some (.int (nI wi)), some (.int ((nI fd) - (nI ea) + (-1)))] dX7_loss_14 rfl rfl (by decide) rfl ?_
    refine r_iload 19 rfl dX7_loss_17 rfl ?_
    refine r_iload_n 20 rfl 2 dX7_loss_19 rfl rfl ?_
    refine q_S 23 0 0 rfl [.int (nI w)] rfl dX7_loss_20 cl_X7_loss__X7_opposite (lk_X7_31 rfl) st_X7_opposite (Nat.le_of_ble_eq_true rfl) (fun _ _ => Nat.le_of_ble_eq_true rfl) rfl rfl (Nat.le_of_ble_eq_true rfl) (Nat.le_of_ble_eq_true rfl) ?_
    refine c_X7_opposite hw1 hw4 (k_i ?_)
    refine r_icmp_ne 26 29 rfl dX7_loss_23 rfl (fun c23 => ?_) (fun c23 => ?_)
    · replace c23 : ¬ wi = (sp_opp w) := fun q__ => c23 ((nI_eq (a := wi) (b := (sp_opp w)) (by omega) (by omega)).mpr q__)
      refine r_aload_n 30 rfl 0 dX7_loss_29 rfl rfl ?_
      refine r_getf (v := .ref 5) (k := 0) 33 rfl dX7_loss_30 (gf_X7_9_7 rfl) rfl rfl ?_
      refine r_iload_n 34 rfl 1 dX7_loss_33 rfl rfl ?_
      refine r_iald (f := m 5) 35 rfl t dX7_loss_34 rfl rfl (by omega) (by decide) ?_
      rw [show (m 5) t = nI (g t) from (hg t ht).1]
      refine r_iconst 36 rfl 2 dX7_loss_35 rfl ?_
      refine r_icmp_ne 39 42 rfl dX7_loss_36 rfl (fun c36 => ?_) (fun c36 => ?_)
      · replace c36 : ¬ (g t) = 2 := fun q__ => c36 ((nI_eq (a := (g t)) (b := 2) (by omega) (by omega)).mpr q__)
        refine r_iload 44 rfl dX7_loss_42 rfl ?_
        refine r_iconst 45 rfl 0 dX7_loss_44 rfl ?_
        refine r_max 48 rfl dX7_loss_45 (lk_X7_34 rfl) (by decide) (Nat.le_of_ble_eq_true rfl) (Nat.le_of_ble_eq_true rfl) (Nat.le_of_ble_eq_true rfl) ?_
        refine r_ireturn rfl dX7_loss_48 (Nat.le_of_ble_eq_true rfl) (Nat.le_of_ble_eq_true rfl) ?_
        have e : (if (nI fd) - (nI ea) + (-1) < 0 then 0 else (nI fd) - (nI ea) + (-1)) = nI (sp_loss fd ea wi w (g t)) := by
          unfold sp_loss
          first | rw [if_pos c11] | rw [if_neg c11]
          first | rw [if_pos c23] | rw [if_neg c23]
          first | rw [if_pos c36] | rw [if_neg c36]
          rcases (show fd = 1 ∨ fd = 2 ∨ fd = 3 by omega) with rfl | rfl | rfl <;> rcases (show ea = 0 ∨ ea = 1 by omega) with rfl | rfl <;> decide +kernel
        rw [e]
        exact k
      · replace c36 : g t = 2 := (nI_eq (a := (g t)) (b := 2) (by omega) (by omega)).mp c36
        refine r_iinc 42 rfl ((nI fd) - (nI ea) + (-1) + 2) [some (.ref 4), some (.int (nI t)), some (.int (nI w)), some (.int (nI ea)), some (.int (nI wi)), some (.int ((nI fd) - (nI ea) + (-1) + 2))] dX7_loss_39 rfl rfl (by decide) rfl ?_
        refine r_iload 44 rfl dX7_loss_42 rfl ?_
        refine r_iconst 45 rfl 0 dX7_loss_44 rfl ?_
        refine r_max 48 rfl dX7_loss_45 (lk_X7_34 rfl) (by decide) (Nat.le_of_ble_eq_true rfl) (Nat.le_of_ble_eq_true rfl) (Nat.le_of_ble_eq_true rfl) ?_
        refine r_ireturn rfl dX7_loss_48 (Nat.le_of_ble_eq_true rfl) (Nat.le_of_ble_eq_true rfl) ?_
        have e : (if (nI fd) - (nI ea) + (-1) + 2 < 0 then 0 else (nI fd) - (nI ea) + (-1) + 2) = nI (sp_loss fd ea wi w (g t)) := by
          unfold sp_loss
          first | rw [if_pos c11] | rw [if_neg c11]
          first | rw [if_pos c23] | rw [if_neg c23]
          first | rw [if_pos c36] | rw [if_neg c36]
          rcases (show fd = 1 ∨ fd = 2 ∨ fd = 3 by omega) with rfl | rfl | rfl <;> rcases (show ea = 0 ∨ ea = 1 by omega) with rfl | rfl <;> decide +kernel
        rw [e]
        exact k
    · replace c23 : wi = sp_opp w := (nI_eq (a := wi) (b := (sp_opp w)) (by omega) (by omega)).mp c23
      refine r_iinc 29 rfl ((nI fd) - (nI ea) + (-1) + 1) [some (.ref 4), some (.int (nI t)), some (.int (nI w)), some (.int (nI ea)), some (.int (nI wi)), some (.int ((nI fd) - (nI ea) + (-1) + 1))] dX7_loss_26 rfl rfl (by decide) rfl ?_
      refine r_aload_n 30 rfl 0 dX7_loss_29 rfl rfl ?_
      refine r_getf (v := .ref 5) (k := 0) 33 rfl dX7_loss_30 (gf_X7_9_7 rfl) rfl rfl ?_
      refine r_iload_n 34 rfl 1 dX7_loss_33 rfl rfl ?_
      refine r_iald (f := m 5) 35 rfl t dX7_loss_34 rfl rfl (by omega) (by decide) ?_
      rw [show (m 5) t = nI (g t) from (hg t ht).1]
      refine r_iconst 36 rfl 2 dX7_loss_35 rfl ?_
      refine r_icmp_ne 39 42 rfl dX7_loss_36 rfl (fun c36 => ?_) (fun c36 => ?_)
      · replace c36 : ¬ (g t) = 2 := fun q__ => c36 ((nI_eq (a := (g t)) (b := 2) (by omega) (by omega)).mpr q__)
        refine r_iload 44 rfl dX7_loss_42 rfl ?_
        refine r_iconst 45 rfl 0 dX7_loss_44 rfl ?_
        refine r_max 48 rfl dX7_loss_45 (lk_X7_34 rfl) (by decide) (Nat.le_of_ble_eq_true rfl) (Nat.le_of_ble_eq_true rfl) (Nat.le_of_ble_eq_true rfl) ?_
        refine r_ireturn rfl dX7_loss_48 (Nat.le_of_ble_eq_true rfl) (Nat.le_of_ble_eq_true rfl) ?_
        have e : (if (nI fd) - (nI ea) + (-1) + 1 < 0 then 0 else (nI fd) - (nI ea) + (-1) + 1) = nI (sp_loss fd ea wi w (g t)) := by
          unfold sp_loss
          first | rw [if_pos c11] | rw [if_neg c11]
          first | rw [if_pos c23] | rw [if_neg c23]
          first | rw [if_pos c36] | rw [if_neg c36]
          rcases (show fd = 1 ∨ fd = 2 ∨ fd = 3 by omega) with rfl | rfl | rfl <;> rcases (show ea = 0 ∨ ea = 1 by omega) with rfl | rfl <;> decide +kernel
        rw [e]
        exact k
      · replace c36 : g t = 2 := (nI_eq (a := (g t)) (b := 2) (by omega) (by omega)).mp c36
        refine r_iinc 42 rfl ((nI fd) - (nI ea) + (-1) + 1 + 2) [some (.ref 4), some (.int (nI t)), some (.int (nI w)), some (.int (nI ea)), some (.int (nI wi)), some (.int ((nI fd) - (nI ea) + (-1) + 1 + 2))] dX7_loss_39 rfl rfl (by decide) rfl ?_
        refine r_iload 44 rfl dX7_loss_42 rfl ?_
        refine r_iconst 45 rfl 0 dX7_loss_44 rfl ?_
        refine r_max 48 rfl dX7_loss_45 (lk_X7_34 rfl) (by decide) (Nat.le_of_ble_eq_true rfl) (Nat.le_of_ble_eq_true rfl) (Nat.le_of_ble_eq_true rfl) ?_
        refine r_ireturn rfl dX7_loss_48 (Nat.le_of_ble_eq_true rfl) (Nat.le_of_ble_eq_true rfl) ?_
        have e : (if (nI fd) - (nI ea) + (-1) + 1 + 2 < 0 then 0 else (nI fd) - (nI ea) + (-1) + 1 + 2) = nI (sp_loss fd ea wi w (g t)) := by
          unfold sp_loss
          first | rw [if_pos c11] | rw [if_neg c11]
          first | rw [if_pos c23] | rw [if_neg c23]
          first | rw [if_pos c36] | rw [if_neg c36]
          rcases (show fd = 1 ∨ fd = 2 ∨ fd = 3 by omega) with rfl | rfl | rfl <;> rcases (show ea = 0 ∨ ea = 1 by omega) with rfl | rfl <;> decide +kernel
        rw [e]
        exact k

theorem sp_loss_le {fd ea wi w g : Nat} (h : fd ≤ 3) : sp_loss fd ea wi w g ≤ 6 := by
  unfold sp_loss
  split <;> split <;> split <;> omega
/-- whether a cell is one of these bits -/
def sp_b (wl : Int32) (t : Nat) : Bool := decide (¬ (wl >>> (nI t &&& 31)) &&& 1 = 0)
theorem sp_rest {a l b : Nat} (ha : a ≤ 100) (hl : l ≤ 100) (hb : b ≤ 100) : (nI a - nI l ≤ nI b ↔ a ≤ b + l) ∧ (l ≤ a → nI a - nI l = nI (a - l)) := by
  refine ⟨?_, fun h => pk_sub h⟩
  rw [Int32.le_iff_toInt_le, pk_sub_toInt (by omega) (by omega), nI_toInt (by omega)]
  omega

theorem nI_m1 {t : Nat} (h : t < 2 ^ 31) : ¬ nI t = -1 := fun q => by
  have h1 := congrArg Int32.toInt q
  rw [nI_toInt h] at h1
  have h2 : (-1 : Int32).toInt = -1 := by decide +kernel
  omega

set_option maxHeartbeats 4000000 in
set_option maxRecDepth 20000 in
theorem lp_spreadOn_33 {Q : am_P} {z : am_Z} {m : Nat → Nat → Int32} {n : Nat} (g : Nat → Nat) (hg : ∀ j, j < 8 → m 5 j = nI (g j) ∧ g j ≤ 2) {fd : Nat} (hfd : m 4 2 = nI fd) (hf1 : 1 ≤ fd) (hf3 : fd ≤ 3) {c ea wi : Nat} {wl : Int32} (hc : c < 8) (hea : ea ≤ 1) (hwi : wi ≤ 4) (u : Nat → Nat) (hu : ∀ j, u j ≤ 9) (k : ∀ m', (∀ j, j < 8 → m' 33 j = nI (sp_w (sp_E g (sp_b wl) fd ea wi) u c 4 j)) → ag [33] m m' → Q (some (.int (if sp_gw (sp_E g (sp_b wl) fd ea wi) u c 4 = true then 1 else 0))) (wd z m') n) : ∀ (d w : Nat), w + d = 4 → ∀ m', (∀ j, j < 8 → m' 33 j = nI (sp_w (sp_E g (sp_b wl) fd ea wi) u c w j)) → ag [33] m m' → AW mX7_spreadOn Q 6 [some (.ref 4), some (.int (nI c)), some (.int (nI ea)), some (.int (nI wi)), some (.int wl), some (.ref 33), some (.int (if sp_gw (sp_E g (sp_b wl) fd ea wi) u c w = true then 1 else 0)), some (.int (nI (w + 1))), none, none] [] (wd z m') n 0 0 := by
  intro d
  induction d with
  | zero =>
    intro w hw m' hm hag
    have hw : w = 4 := by omega
    subst hw
    refine r_iload 8 rfl dX7_spreadOn_6 rfl ?_
    refine r_iconst 9 rfl 4 dX7_spreadOn_8 rfl ?_
    refine r_icmp_gt 12 88 rfl dX7_spreadOn_9 rfl (fun _ => ?_) (fun q__ => absurd ((nI_ltI (a := 4) (b := (4 + 1)) (by omega) (by omega)).mpr (by omega)) q__)
    refine r_iload 90 rfl dX7_spreadOn_88 rfl ?_
    refine r_zreturn rfl (by split <;> rfl) dX7_spreadOn_90 (Nat.le_of_ble_eq_true rfl) (Nat.le_of_ble_eq_true rfl) ?_
    exact k m' hm hag
  | succ d ih =>
    intro w hw m' hm hag
    have hg5 : m' 5 = m 5 := hag 5 (by decide)
    have hg4 : m' 4 = m 4 := hag 4 (by decide)
    have hg' : ∀ j, j < 8 → m' 5 j = nI (g j) ∧ g j ≤ 2 := fun j hj => by rw [hg5]; exact hg j hj
    have hfd' : m' 4 2 = nI fd := by rw [hg4]; exact hfd
    have hub := sp_w_le (E := (sp_E g (sp_b wl) fd ea wi)) (c := c) hu w
    generalize hv : sp_w (sp_E g (sp_b wl) fd ea wi) u c w = v at hm hub
    have hcv := hub c
    refine r_iload 8 rfl dX7_spreadOn_6 rfl ?_
    refine r_iconst 9 rfl 4 dX7_spreadOn_8 rfl ?_
    refine r_icmp_gt 12 88 rfl dX7_spreadOn_9 rfl (fun q__ => absurd q__ (fun q__ => absurd ((nI_ltI (a := 4) (b := (w + 1)) (by omega) (by omega)).mp q__) (by omega))) (fun _ => ?_)
    refine r_iload_n 13 rfl 1 dX7_spreadOn_12 rfl rfl ?_
    refine r_iload 15 rfl dX7_spreadOn_13 rfl ?_
    refine q_S 18 0 0 rfl [.int (nI c), .int (nI (w + 1))] rfl dX7_spreadOn_15 cl_X7_spreadOn__X7_beside (lk_X7_44 rfl) st_X7_beside (Nat.le_of_ble_eq_true rfl) (fun _ _ => Nat.le_of_ble_eq_true rfl) rfl rfl (Nat.le_of_ble_eq_true rfl) (Nat.le_of_ble_eq_true rfl) ?_
    refine c_X7_beside hc (by omega) (by omega) (fun t hto ht => (k_i ?_)) (fun hto => (k_i ?_))
    · have hvt := hub t
      refine r_istore 20 rfl [some (.ref 4), some (.int (nI c)), some (.int (nI ea)), some (.int (nI wi)), some (.int wl), some (.ref 33), some (.int (if sp_gw (sp_E g (sp_b wl) fd ea wi) u c w = true then 1 else 0)), some (.int (nI (w + 1))), some (.int (nI t)), none] dX7_spreadOn_18 (by decide) rfl ?_
      refine r_iload 22 rfl dX7_spreadOn_20 rfl ?_
      refine r_iconst 23 rfl (-1) dX7_spreadOn_22 rfl ?_
      refine r_icmp_eq 26 82 rfl dX7_spreadOn_23 rfl (fun q__ => absurd q__ (nI_m1 (by omega))) (fun _ => ?_)
      refine r_aload_n 27 rfl 0 dX7_spreadOn_26 rfl rfl ?_
      refine r_iload 29 rfl dX7_spreadOn_27 rfl ?_
      refine q_V 32 0 0 rfl [.int (nI t)] rfl dX7_spreadOn_29 cl_X7_spreadOn__X7_isWall (lk_X7_47 rfl) im_X7_isWall (ci := 7) rfl sl_X7__X7_isWall rfl (Nat.le_of_ble_eq_true rfl) (fun _ _ => Nat.le_of_ble_eq_true rfl) rfl rfl (Nat.le_of_ble_eq_true rfl) (Nat.le_of_ble_eq_true rfl) ?_
      refine c_X7_isWall g hg' ht (fun hw1 => (k_i ?_)) (fun hw1 => (k_i ?_))
      · refine r_if_ne 35 82 rfl dX7_spreadOn_32 rfl (fun _ => ?_) (fun q__ => absurd q__ (by decide))
        refine r_iinc 85 rfl (nI ((w + 1) + 1)) [some (.ref 4), some (.int (nI c)), some (.int (nI ea)), some (.int (nI wi)), some (.int wl), some (.ref 33), some (.int (if sp_gw (sp_E g (sp_b wl) fd ea wi) u c w = true then 1 else 0)), some (.int (nI ((w + 1) + 1))), some (.int (nI t)), none] dX7_spreadOn_82 rfl (nI_1 _) (by decide) rfl ?_
        refine r_goto 6 dX7_spreadOn_85 rfl ?_
        refine AW.drop 8 [some (.ref 4), some (.int (nI c)), some (.int (nI ea)), some (.int (nI wi)), some (.int wl), some (.ref 33), some (.int (if sp_gw (sp_E g (sp_b wl) fd ea wi) u c w = true then 1 else 0)), some (.int (nI ((w + 1) + 1))), none, none] rfl ?_
        have e1 : sp_fire (sp_E g (sp_b wl) fd ea wi) v c (w + 1) = false := by
          unfold sp_fire; rw [show sp_E g (sp_b wl) fd ea wi c (w + 1) = none by unfold sp_E; rw [hto]; exact if_pos (Or.inl hw1)]
        have e2 : sp_w (sp_E g (sp_b wl) fd ea wi) u c (w + 1) = v := by show sp_st _ (sp_w _ u c w) c (w + 1) = v; rw [hv, sp_st_eq e1]
        have e3 : sp_gw (sp_E g (sp_b wl) fd ea wi) u c (w + 1) = sp_gw (sp_E g (sp_b wl) fd ea wi) u c w := by show (sp_gw _ u c w || sp_fire _ (sp_w _ u c w) c (w + 1)) = _; rw [hv, e1, Bool.or_false]
        rw [← e3]
        exact ih (w + 1) (by omega) m' (fun j hj => by rw [e2]; exact hm j hj) hag
      · refine r_if_ne 35 82 rfl dX7_spreadOn_32 rfl (fun q__ => absurd (by decide) q__) (fun _ => ?_)
        refine r_iload 37 rfl dX7_spreadOn_35 rfl ?_
        refine r_iload 39 rfl dX7_spreadOn_37 rfl ?_
        refine r_ishr 40 rfl dX7_spreadOn_39 ?_
        refine r_iconst 41 rfl 1 dX7_spreadOn_40 rfl ?_
        refine r_iand 42 rfl dX7_spreadOn_41 ?_
        refine r_if_ne 45 82 rfl dX7_spreadOn_42 rfl (fun c42 => ?_) (fun c42 => ?_)
        · have hbl : sp_b wl t = true := by simp [sp_b, *]
          refine r_iinc 85 rfl (nI ((w + 1) + 1)) [some (.ref 4), some (.int (nI c)), some (.int (nI ea)), some (.int (nI wi)), some (.int wl), some (.ref 33), some (.int (if sp_gw (sp_E g (sp_b wl) fd ea wi) u c w = true then 1 else 0)), some (.int (nI ((w + 1) + 1))), some (.int (nI t)), none] dX7_spreadOn_82 rfl (nI_1 _) (by decide) rfl ?_
          refine r_goto 6 dX7_spreadOn_85 rfl ?_
          refine AW.drop 8 [some (.ref 4), some (.int (nI c)), some (.int (nI ea)), some (.int (nI wi)), some (.int wl), some (.ref 33), some (.int (if sp_gw (sp_E g (sp_b wl) fd ea wi) u c w = true then 1 else 0)), some (.int (nI ((w + 1) + 1))), none, none] rfl ?_
          have e1 : sp_fire (sp_E g (sp_b wl) fd ea wi) v c (w + 1) = false := by
            unfold sp_fire; rw [show sp_E g (sp_b wl) fd ea wi c (w + 1) = none by unfold sp_E; rw [hto]; exact if_pos (Or.inr hbl)]
          have e2 : sp_w (sp_E g (sp_b wl) fd ea wi) u c (w + 1) = v := by show sp_st _ (sp_w _ u c w) c (w + 1) = v; rw [hv, sp_st_eq e1]
          have e3 : sp_gw (sp_E g (sp_b wl) fd ea wi) u c (w + 1) = sp_gw (sp_E g (sp_b wl) fd ea wi) u c w := by show (sp_gw _ u c w || sp_fire _ (sp_w _ u c w) c (w + 1)) = _; rw [hv, e1, Bool.or_false]
          rw [← e3]
          exact ih (w + 1) (by omega) m' (fun j hj => by rw [e2]; exact hm j hj) hag
        · have hnw : ¬ (g t = 1 ∨ sp_b wl t = true) := by simp [sp_b, *]
          refine r_aload 47 rfl dX7_spreadOn_45 rfl ?_
          refine r_iload_n 48 rfl 1 dX7_spreadOn_47 rfl rfl ?_
          refine r_iald (f := m' 33) 49 rfl c dX7_spreadOn_48 rfl rfl (by omega) (by decide) ?_
          rw [show (m' 33) c = nI (v c) from hm c hc]
          refine r_aload_n 50 rfl 0 dX7_spreadOn_49 rfl rfl ?_
          refine r_iload 52 rfl dX7_spreadOn_50 rfl ?_
          refine r_iload 54 rfl dX7_spreadOn_52 rfl ?_
          refine r_iload_n 55 rfl 2 dX7_spreadOn_54 rfl rfl ?_
          refine r_iload_n 56 rfl 3 dX7_spreadOn_55 rfl rfl ?_
          refine q_V 59 0 0 rfl [.int (nI t), .int (nI (w + 1)), .int (nI ea), .int (nI wi)] rfl dX7_spreadOn_56 cl_X7_spreadOn__X7_loss (lk_X7_51 rfl) im_X7_loss (ci := 7) rfl sl_X7__X7_loss rfl (Nat.le_of_ble_eq_true rfl) (fun _ _ => Nat.le_of_ble_eq_true rfl) rfl rfl (Nat.le_of_ble_eq_true rfl) (Nat.le_of_ble_eq_true rfl) ?_
          refine c_X7_loss g hg' hfd' hf1 hf3 ht (by omega) (by omega) hea hwi (k_i ?_)
          have hll := sp_loss_le (ea := ea) (wi := wi) (w := w + 1) (g := g t) hf3
          refine r_isub 60 rfl dX7_spreadOn_59 ?_
          refine r_istore 62 rfl [some (.ref 4), some (.int (nI c)), some (.int (nI ea)), some (.int (nI wi)), some (.int wl), some (.ref 33), some (.int (if sp_gw (sp_E g (sp_b wl) fd ea wi) u c w = true then 1 else 0)), some (.int (nI (w + 1))), some (.int (nI t)), some (.int ((nI (v c)) - (nI (sp_loss fd ea wi (w + 1) (g t)))))] dX7_spreadOn_60 (by decide) rfl ?_
          refine r_iload 64 rfl dX7_spreadOn_62 rfl ?_
          refine r_aload 66 rfl dX7_spreadOn_64 rfl ?_
          refine r_iload 68 rfl dX7_spreadOn_66 rfl ?_
          refine r_iald (f := m' 33) 69 rfl t dX7_spreadOn_68 rfl rfl (by omega) (by decide) ?_
          rw [show (m' 33) t = nI (v t) from hm t ht]
          refine r_icmp_le 72 82 rfl dX7_spreadOn_69 rfl (fun c69 => ?_) (fun c69 => ?_)
          · have hnlt := (sp_rest (by omega) (by omega) (by omega)).1.mp c69
            refine r_iinc 85 rfl (nI ((w + 1) + 1)) [some (.ref 4), some (.int (nI c)), some (.int (nI ea)), some (.int (nI wi)), some (.int wl), some (.ref 33), some (.int (if sp_gw (sp_E g (sp_b wl) fd ea wi) u c w = true then 1 else 0)), some (.int (nI ((w + 1) + 1))), some (.int (nI t)), some (.int ((nI (v c)) - (nI (sp_loss fd ea wi (w + 1) (g t)))))] dX7_spreadOn_82 rfl (nI_1 _) (by decide) rfl ?_
            refine r_goto 6 dX7_spreadOn_85 rfl ?_
            refine AW.drop 8 [some (.ref 4), some (.int (nI c)), some (.int (nI ea)), some (.int (nI wi)), some (.int wl), some (.ref 33), some (.int (if sp_gw (sp_E g (sp_b wl) fd ea wi) u c w = true then 1 else 0)), some (.int (nI ((w + 1) + 1))), none, some (.int ((nI (v c)) - (nI (sp_loss fd ea wi (w + 1) (g t)))))] rfl ?_
            refine AW.drop 9 [some (.ref 4), some (.int (nI c)), some (.int (nI ea)), some (.int (nI wi)), some (.int wl), some (.ref 33), some (.int (if sp_gw (sp_E g (sp_b wl) fd ea wi) u c w = true then 1 else 0)), some (.int (nI ((w + 1) + 1))), none, none] rfl ?_
            have e1 : sp_fire (sp_E g (sp_b wl) fd ea wi) v c (w + 1) = false := by
              unfold sp_fire; rw [show sp_E g (sp_b wl) fd ea wi c (w + 1) = some (t, sp_loss fd ea wi (w + 1) (g t)) by unfold sp_E; rw [hto]; exact if_neg hnw]; exact decide_eq_false (show ¬ v t + sp_loss fd ea wi (w + 1) (g t) < v c by omega)
            have e2 : sp_w (sp_E g (sp_b wl) fd ea wi) u c (w + 1) = v := by show sp_st _ (sp_w _ u c w) c (w + 1) = v; rw [hv, sp_st_eq e1]
            have e3 : sp_gw (sp_E g (sp_b wl) fd ea wi) u c (w + 1) = sp_gw (sp_E g (sp_b wl) fd ea wi) u c w := by show (sp_gw _ u c w || sp_fire _ (sp_w _ u c w) c (w + 1)) = _; rw [hv, e1, Bool.or_false]
            rw [← e3]
            exact ih (w + 1) (by omega) m' (fun j hj => by rw [e2]; exact hm j hj) hag
          · have hlt : v t + sp_loss fd ea wi (w + 1) (g t) < v c := Nat.lt_of_not_le (fun q => c69 ((sp_rest (by omega) (by omega) (by omega)).1.mpr q))
            refine r_aload 74 rfl dX7_spreadOn_72 rfl ?_
            refine r_iload 76 rfl dX7_spreadOn_74 rfl ?_
            refine r_iload 78 rfl dX7_spreadOn_76 rfl ?_
            rw [(sp_rest (a := v c) (l := sp_loss fd ea wi (w + 1) (g t)) (b := 0) (by omega) (by omega) (by omega)).2 (by omega)]
            refine w_iast 79 rfl t (va_up m' 33 (upd (m' 33) t (nI (v c - sp_loss fd ea wi (w + 1) (g t))))) dX7_spreadOn_78 (by decide) (by decide) (fun _ => rfl) rfl (by omega) (by decide) rfl ?_
            refine r_iconst 80 rfl 1 dX7_spreadOn_79 rfl ?_
            refine r_istore 82 rfl [some (.ref 4), some (.int (nI c)), some (.int (nI ea)), some (.int (nI wi)), some (.int wl), some (.ref 33), some (.int 1), some (.int (nI (w + 1))), some (.int (nI t)), some (.int (nI (v c - sp_loss fd ea wi (w + 1) (g t))))] dX7_spreadOn_80 (by decide) rfl ?_
            refine r_iinc 85 rfl (nI ((w + 1) + 1)) [some (.ref 4), some (.int (nI c)), some (.int (nI ea)), some (.int (nI wi)), some (.int wl), some (.ref 33), some (.int 1), some (.int (nI ((w + 1) + 1))), some (.int (nI t)), some (.int (nI (v c - sp_loss fd ea wi (w + 1) (g t))))] dX7_spreadOn_82 rfl (nI_1 _) (by decide) rfl ?_
            refine r_goto 6 dX7_spreadOn_85 rfl ?_
            refine AW.drop 8 [some (.ref 4), some (.int (nI c)), some (.int (nI ea)), some (.int (nI wi)), some (.int wl), some (.ref 33), some (.int 1), some (.int (nI ((w + 1) + 1))), none, some (.int (nI (v c - sp_loss fd ea wi (w + 1) (g t))))] rfl ?_
            refine AW.drop 9 [some (.ref 4), some (.int (nI c)), some (.int (nI ea)), some (.int (nI wi)), some (.int wl), some (.ref 33), some (.int 1), some (.int (nI ((w + 1) + 1))), none, none] rfl ?_
            have hE : sp_E g (sp_b wl) fd ea wi c (w + 1) = some (t, sp_loss fd ea wi (w + 1) (g t)) := by unfold sp_E; rw [hto]; exact if_neg hnw
            have e1 : sp_fire (sp_E g (sp_b wl) fd ea wi) v c (w + 1) = true := by unfold sp_fire; rw [hE]; exact decide_eq_true hlt
            have e2 : sp_w (sp_E g (sp_b wl) fd ea wi) u c (w + 1) = va_up v t (v c - sp_loss fd ea wi (w + 1) (g t)) := by show sp_st _ (sp_w _ u c w) c (w + 1) = _; rw [hv]; unfold sp_st; rw [hE]; exact if_pos hlt
            have e3 : sp_gw (sp_E g (sp_b wl) fd ea wi) u c (w + 1) = true := by show (sp_gw _ u c w || sp_fire _ (sp_w _ u c w) c (w + 1)) = _; rw [hv, e1, Bool.or_true]
            rw [show (1 : Int32) = (if sp_gw (sp_E g (sp_b wl) fd ea wi) u c (w + 1) = true then 1 else 0) by rw [if_pos e3]]
            refine ih (w + 1) (by omega) _ (fun j hj => ?_) (ag_up hag (by decide))
            rw [e2, va_up_self]
            unfold upd
            by_cases hjt : j = t
            · subst hjt; rw [if_pos rfl, va_up_self]
            · rw [if_neg hjt, va_up_ne _ _ hjt]; exact hm j hj
    · refine r_istore 20 rfl [some (.ref 4), some (.int (nI c)), some (.int (nI ea)), some (.int (nI wi)), some (.int wl), some (.ref 33), some (.int (if sp_gw (sp_E g (sp_b wl) fd ea wi) u c w = true then 1 else 0)), some (.int (nI (w + 1))), some (.int (-1)), none] dX7_spreadOn_18 (by decide) rfl ?_
      refine r_iload 22 rfl dX7_spreadOn_20 rfl ?_
      refine r_iconst 23 rfl (-1) dX7_spreadOn_22 rfl ?_
      refine r_icmp_eq 26 82 rfl dX7_spreadOn_23 rfl (fun _ => ?_) (fun q__ => absurd (by decide) q__)
      refine r_iinc 85 rfl (nI ((w + 1) + 1)) [some (.ref 4), some (.int (nI c)), some (.int (nI ea)), some (.int (nI wi)), some (.int wl), some (.ref 33), some (.int (if sp_gw (sp_E g (sp_b wl) fd ea wi) u c w = true then 1 else 0)), some (.int (nI ((w + 1) + 1))), some (.int (-1)), none] dX7_spreadOn_82 rfl (nI_1 _) (by decide) rfl ?_
      refine r_goto 6 dX7_spreadOn_85 rfl ?_
      refine AW.drop 8 [some (.ref 4), some (.int (nI c)), some (.int (nI ea)), some (.int (nI wi)), some (.int wl), some (.ref 33), some (.int (if sp_gw (sp_E g (sp_b wl) fd ea wi) u c w = true then 1 else 0)), some (.int (nI ((w + 1) + 1))), none, none] rfl ?_
      have e1 : sp_fire (sp_E g (sp_b wl) fd ea wi) v c (w + 1) = false := by
        unfold sp_fire; rw [show sp_E g (sp_b wl) fd ea wi c (w + 1) = none by unfold sp_E; rw [hto]]
      have e2 : sp_w (sp_E g (sp_b wl) fd ea wi) u c (w + 1) = v := by show sp_st _ (sp_w _ u c w) c (w + 1) = v; rw [hv, sp_st_eq e1]
      have e3 : sp_gw (sp_E g (sp_b wl) fd ea wi) u c (w + 1) = sp_gw (sp_E g (sp_b wl) fd ea wi) u c w := by show (sp_gw _ u c w || sp_fire _ (sp_w _ u c w) c (w + 1)) = _; rw [hv, e1, Bool.or_false]
      rw [← e3]
      exact ih (w + 1) (by omega) m' (fun j hj => by rw [e2]; exact hm j hj) hag
set_option maxHeartbeats 4000000 in
set_option maxRecDepth 20000 in
theorem c_spreadOn_33 {Q : am_P} {z : am_Z} {m : Nat → Nat → Int32} {n : Nat} (g : Nat → Nat) (hg : ∀ j, j < 8 → m 5 j = nI (g j) ∧ g j ≤ 2) {fd : Nat} (hfd : m 4 2 = nI fd) (hf1 : 1 ≤ fd) (hf3 : fd ≤ 3) {c ea wi : Nat} {wl : Int32} (hc : c < 8) (hea : ea ≤ 1) (hwi : wi ≤ 4) (u : Nat → Nat) (hu : ∀ j, u j ≤ 9) (hm : ∀ j, j < 8 → m 33 j = nI (u j)) (k : ∀ m', (∀ j, j < 8 → m' 33 j = nI (sp_w (sp_E g (sp_b wl) fd ea wi) u c 4 j)) → ag [33] m m' → Q (some (.int (if sp_gw (sp_E g (sp_b wl) fd ea wi) u c 4 = true then 1 else 0))) (wd z m') n) : AW mX7_spreadOn Q 0 (am_ent (am_l mX7_spreadOn) [.ref 4, .int (nI c), .int (nI ea), .int (nI wi), .int wl, .ref 33]) [] (wd z m) n 0 0 := by
  show AW _ _ 0 [some (.ref 4), some (.int (nI c)), some (.int (nI ea)), some (.int (nI wi)), some (.int wl), some (.ref 33), none, none, none, none] [] _ _ 0 0
  refine r_iconst 1 rfl 0 dX7_spreadOn_0 rfl ?_
  refine r_istore 3 rfl [some (.ref 4), some (.int (nI c)), some (.int (nI ea)), some (.int (nI wi)), some (.int wl), some (.ref 33), some (.int 0), none, none, none] dX7_spreadOn_1 (by decide) rfl ?_
  refine r_iconst 4 rfl 1 dX7_spreadOn_3 rfl ?_
  refine r_istore 6 rfl [some (.ref 4), some (.int (nI c)), some (.int (nI ea)), some (.int (nI wi)), some (.int wl), some (.ref 33), some (.int 0), some (.int 1), none, none] dX7_spreadOn_4 (by decide) rfl ?_
  exact lp_spreadOn_33 g hg hfd hf1 hf3 hc hea hwi u hu k 4 0 rfl m hm (ag_r _ _)

set_option maxHeartbeats 4000000 in
set_option maxRecDepth 20000 in
theorem lp_spreadOn_32 {Q : am_P} {z : am_Z} {m : Nat → Nat → Int32} {n : Nat} (g : Nat → Nat) (hg : ∀ j, j < 8 → m 5 j = nI (g j) ∧ g j ≤ 2) {fd : Nat} (hfd : m 4 2 = nI fd) (hf1 : 1 ≤ fd) (hf3 : fd ≤ 3) {c ea wi : Nat} {wl : Int32} (hc : c < 8) (hea : ea ≤ 1) (hwi : wi ≤ 4) (u : Nat → Nat) (hu : ∀ j, u j ≤ 9) (k : ∀ m', (∀ j, j < 8 → m' 32 j = nI (sp_w (sp_E g (sp_b wl) fd ea wi) u c 4 j)) → ag [32] m m' → Q (some (.int (if sp_gw (sp_E g (sp_b wl) fd ea wi) u c 4 = true then 1 else 0))) (wd z m') n) : ∀ (d w : Nat), w + d = 4 → ∀ m', (∀ j, j < 8 → m' 32 j = nI (sp_w (sp_E g (sp_b wl) fd ea wi) u c w j)) → ag [32] m m' → AW mX7_spreadOn Q 6 [some (.ref 4), some (.int (nI c)), some (.int (nI ea)), some (.int (nI wi)), some (.int wl), some (.ref 32), some (.int (if sp_gw (sp_E g (sp_b wl) fd ea wi) u c w = true then 1 else 0)), some (.int (nI (w + 1))), none, none] [] (wd z m') n 0 0 := by
  intro d
  induction d with
  | zero =>
    intro w hw m' hm hag
    have hw : w = 4 := by omega
    subst hw
    refine r_iload 8 rfl dX7_spreadOn_6 rfl ?_
    refine r_iconst 9 rfl 4 dX7_spreadOn_8 rfl ?_
    refine r_icmp_gt 12 88 rfl dX7_spreadOn_9 rfl (fun _ => ?_) (fun q__ => absurd ((nI_ltI (a := 4) (b := (4 + 1)) (by omega) (by omega)).mpr (by omega)) q__)
    refine r_iload 90 rfl dX7_spreadOn_88 rfl ?_
    refine r_zreturn rfl (by split <;> rfl) dX7_spreadOn_90 (Nat.le_of_ble_eq_true rfl) (Nat.le_of_ble_eq_true rfl) ?_
    exact k m' hm hag
  | succ d ih =>
    intro w hw m' hm hag
    have hg5 : m' 5 = m 5 := hag 5 (by decide)
    have hg4 : m' 4 = m 4 := hag 4 (by decide)
    have hg' : ∀ j, j < 8 → m' 5 j = nI (g j) ∧ g j ≤ 2 := fun j hj => by rw [hg5]; exact hg j hj
    have hfd' : m' 4 2 = nI fd := by rw [hg4]; exact hfd
    have hub := sp_w_le (E := (sp_E g (sp_b wl) fd ea wi)) (c := c) hu w
    generalize hv : sp_w (sp_E g (sp_b wl) fd ea wi) u c w = v at hm hub
    have hcv := hub c
    refine r_iload 8 rfl dX7_spreadOn_6 rfl ?_
    refine r_iconst 9 rfl 4 dX7_spreadOn_8 rfl ?_
    refine r_icmp_gt 12 88 rfl dX7_spreadOn_9 rfl (fun q__ => absurd q__ (fun q__ => absurd ((nI_ltI (a := 4) (b := (w + 1)) (by omega) (by omega)).mp q__) (by omega))) (fun _ => ?_)
    refine r_iload_n 13 rfl 1 dX7_spreadOn_12 rfl rfl ?_
    refine r_iload 15 rfl dX7_spreadOn_13 rfl ?_
    refine q_S 18 0 0 rfl [.int (nI c), .int (nI (w + 1))] rfl dX7_spreadOn_15 cl_X7_spreadOn__X7_beside (lk_X7_44 rfl) st_X7_beside (Nat.le_of_ble_eq_true rfl) (fun _ _ => Nat.le_of_ble_eq_true rfl) rfl rfl (Nat.le_of_ble_eq_true rfl) (Nat.le_of_ble_eq_true rfl) ?_
    refine c_X7_beside hc (by omega) (by omega) (fun t hto ht => (k_i ?_)) (fun hto => (k_i ?_))
    · have hvt := hub t
      refine r_istore 20 rfl [some (.ref 4), some (.int (nI c)), some (.int (nI ea)), some (.int (nI wi)), some (.int wl), some (.ref 32), some (.int (if sp_gw (sp_E g (sp_b wl) fd ea wi) u c w = true then 1 else 0)), some (.int (nI (w + 1))), some (.int (nI t)), none] dX7_spreadOn_18 (by decide) rfl ?_
      refine r_iload 22 rfl dX7_spreadOn_20 rfl ?_
      refine r_iconst 23 rfl (-1) dX7_spreadOn_22 rfl ?_
      refine r_icmp_eq 26 82 rfl dX7_spreadOn_23 rfl (fun q__ => absurd q__ (nI_m1 (by omega))) (fun _ => ?_)
      refine r_aload_n 27 rfl 0 dX7_spreadOn_26 rfl rfl ?_
      refine r_iload 29 rfl dX7_spreadOn_27 rfl ?_
      refine q_V 32 0 0 rfl [.int (nI t)] rfl dX7_spreadOn_29 cl_X7_spreadOn__X7_isWall (lk_X7_47 rfl) im_X7_isWall (ci := 7) rfl sl_X7__X7_isWall rfl (Nat.le_of_ble_eq_true rfl) (fun _ _ => Nat.le_of_ble_eq_true rfl) rfl rfl (Nat.le_of_ble_eq_true rfl) (Nat.le_of_ble_eq_true rfl) ?_
      refine c_X7_isWall g hg' ht (fun hw1 => (k_i ?_)) (fun hw1 => (k_i ?_))
      · refine r_if_ne 35 82 rfl dX7_spreadOn_32 rfl (fun _ => ?_) (fun q__ => absurd q__ (by decide))
        refine r_iinc 85 rfl (nI ((w + 1) + 1)) [some (.ref 4), some (.int (nI c)), some (.int (nI ea)), some (.int (nI wi)), some (.int wl), some (.ref 32), some (.int (if sp_gw (sp_E g (sp_b wl) fd ea wi) u c w = true then 1 else 0)), some (.int (nI ((w + 1) + 1))), some (.int (nI t)), none] dX7_spreadOn_82 rfl (nI_1 _) (by decide) rfl ?_
        refine r_goto 6 dX7_spreadOn_85 rfl ?_
        refine AW.drop 8 [some (.ref 4), some (.int (nI c)), some (.int (nI ea)), some (.int (nI wi)), some (.int wl), some (.ref 32), some (.int (if sp_gw (sp_E g (sp_b wl) fd ea wi) u c w = true then 1 else 0)), some (.int (nI ((w + 1) + 1))), none, none] rfl ?_
        have e1 : sp_fire (sp_E g (sp_b wl) fd ea wi) v c (w + 1) = false := by
          unfold sp_fire; rw [show sp_E g (sp_b wl) fd ea wi c (w + 1) = none by unfold sp_E; rw [hto]; exact if_pos (Or.inl hw1)]
        have e2 : sp_w (sp_E g (sp_b wl) fd ea wi) u c (w + 1) = v := by show sp_st _ (sp_w _ u c w) c (w + 1) = v; rw [hv, sp_st_eq e1]
        have e3 : sp_gw (sp_E g (sp_b wl) fd ea wi) u c (w + 1) = sp_gw (sp_E g (sp_b wl) fd ea wi) u c w := by show (sp_gw _ u c w || sp_fire _ (sp_w _ u c w) c (w + 1)) = _; rw [hv, e1, Bool.or_false]
        rw [← e3]
        exact ih (w + 1) (by omega) m' (fun j hj => by rw [e2]; exact hm j hj) hag
      · refine r_if_ne 35 82 rfl dX7_spreadOn_32 rfl (fun q__ => absurd (by decide) q__) (fun _ => ?_)
        refine r_iload 37 rfl dX7_spreadOn_35 rfl ?_
        refine r_iload 39 rfl dX7_spreadOn_37 rfl ?_
        refine r_ishr 40 rfl dX7_spreadOn_39 ?_
        refine r_iconst 41 rfl 1 dX7_spreadOn_40 rfl ?_
        refine r_iand 42 rfl dX7_spreadOn_41 ?_
        refine r_if_ne 45 82 rfl dX7_spreadOn_42 rfl (fun c42 => ?_) (fun c42 => ?_)
        · have hbl : sp_b wl t = true := by simp [sp_b, *]
          refine r_iinc 85 rfl (nI ((w + 1) + 1)) [some (.ref 4), some (.int (nI c)), some (.int (nI ea)), some (.int (nI wi)), some (.int wl), some (.ref 32), some (.int (if sp_gw (sp_E g (sp_b wl) fd ea wi) u c w = true then 1 else 0)), some (.int (nI ((w + 1) + 1))), some (.int (nI t)), none] dX7_spreadOn_82 rfl (nI_1 _) (by decide) rfl ?_
          refine r_goto 6 dX7_spreadOn_85 rfl ?_
          refine AW.drop 8 [some (.ref 4), some (.int (nI c)), some (.int (nI ea)), some (.int (nI wi)), some (.int wl), some (.ref 32), some (.int (if sp_gw (sp_E g (sp_b wl) fd ea wi) u c w = true then 1 else 0)), some (.int (nI ((w + 1) + 1))), none, none] rfl ?_
          have e1 : sp_fire (sp_E g (sp_b wl) fd ea wi) v c (w + 1) = false := by
            unfold sp_fire; rw [show sp_E g (sp_b wl) fd ea wi c (w + 1) = none by unfold sp_E; rw [hto]; exact if_pos (Or.inr hbl)]
          have e2 : sp_w (sp_E g (sp_b wl) fd ea wi) u c (w + 1) = v := by show sp_st _ (sp_w _ u c w) c (w + 1) = v; rw [hv, sp_st_eq e1]
          have e3 : sp_gw (sp_E g (sp_b wl) fd ea wi) u c (w + 1) = sp_gw (sp_E g (sp_b wl) fd ea wi) u c w := by show (sp_gw _ u c w || sp_fire _ (sp_w _ u c w) c (w + 1)) = _; rw [hv, e1, Bool.or_false]
          rw [← e3]
          exact ih (w + 1) (by omega) m' (fun j hj => by rw [e2]; exact hm j hj) hag
        · have hnw : ¬ (g t = 1 ∨ sp_b wl t = true) := by simp [sp_b, *]
          refine r_aload 47 rfl dX7_spreadOn_45 rfl ?_
          refine r_iload_n 48 rfl 1 dX7_spreadOn_47 rfl rfl ?_
          refine r_iald (f := m' 32) 49 rfl c dX7_spreadOn_48 rfl rfl (by omega) (by decide) ?_
          rw [show (m' 32) c = nI (v c) from hm c hc]
          refine r_aload_n 50 rfl 0 dX7_spreadOn_49 rfl rfl ?_
          refine r_iload 52 rfl dX7_spreadOn_50 rfl ?_
          refine r_iload 54 rfl dX7_spreadOn_52 rfl ?_
          refine r_iload_n 55 rfl 2 dX7_spreadOn_54 rfl rfl ?_
          refine r_iload_n 56 rfl 3 dX7_spreadOn_55 rfl rfl ?_
          refine q_V 59 0 0 rfl [.int (nI t), .int (nI (w + 1)), .int (nI ea), .int (nI wi)] rfl dX7_spreadOn_56 cl_X7_spreadOn__X7_loss (lk_X7_51 rfl) im_X7_loss (ci := 7) rfl sl_X7__X7_loss rfl (Nat.le_of_ble_eq_true rfl) (fun _ _ => Nat.le_of_ble_eq_true rfl) rfl rfl (Nat.le_of_ble_eq_true rfl) (Nat.le_of_ble_eq_true rfl) ?_
          refine c_X7_loss g hg' hfd' hf1 hf3 ht (by omega) (by omega) hea hwi (k_i ?_)
          have hll := sp_loss_le (ea := ea) (wi := wi) (w := w + 1) (g := g t) hf3
          refine r_isub 60 rfl dX7_spreadOn_59 ?_
          refine r_istore 62 rfl [some (.ref 4), some (.int (nI c)), some (.int (nI ea)), some (.int (nI wi)), some (.int wl), some (.ref 32), some (.int (if sp_gw (sp_E g (sp_b wl) fd ea wi) u c w = true then 1 else 0)), some (.int (nI (w + 1))), some (.int (nI t)), some (.int ((nI (v c)) - (nI (sp_loss fd ea wi (w + 1) (g t)))))] dX7_spreadOn_60 (by decide) rfl ?_
          refine r_iload 64 rfl dX7_spreadOn_62 rfl ?_
          refine r_aload 66 rfl dX7_spreadOn_64 rfl ?_
          refine r_iload 68 rfl dX7_spreadOn_66 rfl ?_
          refine r_iald (f := m' 32) 69 rfl t dX7_spreadOn_68 rfl rfl (by omega) (by decide) ?_
          rw [show (m' 32) t = nI (v t) from hm t ht]
          refine r_icmp_le 72 82 rfl dX7_spreadOn_69 rfl (fun c69 => ?_) (fun c69 => ?_)
          · have hnlt := (sp_rest (by omega) (by omega) (by omega)).1.mp c69
            refine r_iinc 85 rfl (nI ((w + 1) + 1)) [some (.ref 4), some (.int (nI c)), some (.int (nI ea)), some (.int (nI wi)), some (.int wl), some (.ref 32), some (.int (if sp_gw (sp_E g (sp_b wl) fd ea wi) u c w = true then 1 else 0)), some (.int (nI ((w + 1) + 1))), some (.int (nI t)), some (.int ((nI (v c)) - (nI (sp_loss fd ea wi (w + 1) (g t)))))] dX7_spreadOn_82 rfl (nI_1 _) (by decide) rfl ?_
            refine r_goto 6 dX7_spreadOn_85 rfl ?_
            refine AW.drop 8 [some (.ref 4), some (.int (nI c)), some (.int (nI ea)), some (.int (nI wi)), some (.int wl), some (.ref 32), some (.int (if sp_gw (sp_E g (sp_b wl) fd ea wi) u c w = true then 1 else 0)), some (.int (nI ((w + 1) + 1))), none, some (.int ((nI (v c)) - (nI (sp_loss fd ea wi (w + 1) (g t)))))] rfl ?_
            refine AW.drop 9 [some (.ref 4), some (.int (nI c)), some (.int (nI ea)), some (.int (nI wi)), some (.int wl), some (.ref 32), some (.int (if sp_gw (sp_E g (sp_b wl) fd ea wi) u c w = true then 1 else 0)), some (.int (nI ((w + 1) + 1))), none, none] rfl ?_
            have e1 : sp_fire (sp_E g (sp_b wl) fd ea wi) v c (w + 1) = false := by
              unfold sp_fire; rw [show sp_E g (sp_b wl) fd ea wi c (w + 1) = some (t, sp_loss fd ea wi (w + 1) (g t)) by unfold sp_E; rw [hto]; exact if_neg hnw]; exact decide_eq_false (show ¬ v t + sp_loss fd ea wi (w + 1) (g t) < v c by omega)
            have e2 : sp_w (sp_E g (sp_b wl) fd ea wi) u c (w + 1) = v := by show sp_st _ (sp_w _ u c w) c (w + 1) = v; rw [hv, sp_st_eq e1]
            have e3 : sp_gw (sp_E g (sp_b wl) fd ea wi) u c (w + 1) = sp_gw (sp_E g (sp_b wl) fd ea wi) u c w := by show (sp_gw _ u c w || sp_fire _ (sp_w _ u c w) c (w + 1)) = _; rw [hv, e1, Bool.or_false]
            rw [← e3]
            exact ih (w + 1) (by omega) m' (fun j hj => by rw [e2]; exact hm j hj) hag
          · have hlt : v t + sp_loss fd ea wi (w + 1) (g t) < v c := Nat.lt_of_not_le (fun q => c69 ((sp_rest (by omega) (by omega) (by omega)).1.mpr q))
            refine r_aload 74 rfl dX7_spreadOn_72 rfl ?_
            refine r_iload 76 rfl dX7_spreadOn_74 rfl ?_
            refine r_iload 78 rfl dX7_spreadOn_76 rfl ?_
            rw [(sp_rest (a := v c) (l := sp_loss fd ea wi (w + 1) (g t)) (b := 0) (by omega) (by omega) (by omega)).2 (by omega)]
            refine w_iast 79 rfl t (va_up m' 32 (upd (m' 32) t (nI (v c - sp_loss fd ea wi (w + 1) (g t))))) dX7_spreadOn_78 (by decide) (by decide) (fun _ => rfl) rfl (by omega) (by decide) rfl ?_
            refine r_iconst 80 rfl 1 dX7_spreadOn_79 rfl ?_
            refine r_istore 82 rfl [some (.ref 4), some (.int (nI c)), some (.int (nI ea)), some (.int (nI wi)), some (.int wl), some (.ref 32), some (.int 1), some (.int (nI (w + 1))), some (.int (nI t)), some (.int (nI (v c - sp_loss fd ea wi (w + 1) (g t))))] dX7_spreadOn_80 (by decide) rfl ?_
            refine r_iinc 85 rfl (nI ((w + 1) + 1)) [some (.ref 4), some (.int (nI c)), some (.int (nI ea)), some (.int (nI wi)), some (.int wl), some (.ref 32), some (.int 1), some (.int (nI ((w + 1) + 1))), some (.int (nI t)), some (.int (nI (v c - sp_loss fd ea wi (w + 1) (g t))))] dX7_spreadOn_82 rfl (nI_1 _) (by decide) rfl ?_
            refine r_goto 6 dX7_spreadOn_85 rfl ?_
            refine AW.drop 8 [some (.ref 4), some (.int (nI c)), some (.int (nI ea)), some (.int (nI wi)), some (.int wl), some (.ref 32), some (.int 1), some (.int (nI ((w + 1) + 1))), none, some (.int (nI (v c - sp_loss fd ea wi (w + 1) (g t))))] rfl ?_
            refine AW.drop 9 [some (.ref 4), some (.int (nI c)), some (.int (nI ea)), some (.int (nI wi)), some (.int wl), some (.ref 32), some (.int 1), some (.int (nI ((w + 1) + 1))), none, none] rfl ?_
            have hE : sp_E g (sp_b wl) fd ea wi c (w + 1) = some (t, sp_loss fd ea wi (w + 1) (g t)) := by unfold sp_E; rw [hto]; exact if_neg hnw
            have e1 : sp_fire (sp_E g (sp_b wl) fd ea wi) v c (w + 1) = true := by unfold sp_fire; rw [hE]; exact decide_eq_true hlt
            have e2 : sp_w (sp_E g (sp_b wl) fd ea wi) u c (w + 1) = va_up v t (v c - sp_loss fd ea wi (w + 1) (g t)) := by show sp_st _ (sp_w _ u c w) c (w + 1) = _; rw [hv]; unfold sp_st; rw [hE]; exact if_pos hlt
            have e3 : sp_gw (sp_E g (sp_b wl) fd ea wi) u c (w + 1) = true := by show (sp_gw _ u c w || sp_fire _ (sp_w _ u c w) c (w + 1)) = _; rw [hv, e1, Bool.or_true]
            rw [show (1 : Int32) = (if sp_gw (sp_E g (sp_b wl) fd ea wi) u c (w + 1) = true then 1 else 0) by rw [if_pos e3]]
            refine ih (w + 1) (by omega) _ (fun j hj => ?_) (ag_up hag (by decide))
            rw [e2, va_up_self]
            unfold upd
            by_cases hjt : j = t
            · subst hjt; rw [if_pos rfl, va_up_self]
            · rw [if_neg hjt, va_up_ne _ _ hjt]; exact hm j hj
    · refine r_istore 20 rfl [some (.ref 4), some (.int (nI c)), some (.int (nI ea)), some (.int (nI wi)), some (.int wl), some (.ref 32), some (.int (if sp_gw (sp_E g (sp_b wl) fd ea wi) u c w = true then 1 else 0)), some (.int (nI (w + 1))), some (.int (-1)), none] dX7_spreadOn_18 (by decide) rfl ?_
      refine r_iload 22 rfl dX7_spreadOn_20 rfl ?_
      refine r_iconst 23 rfl (-1) dX7_spreadOn_22 rfl ?_
      refine r_icmp_eq 26 82 rfl dX7_spreadOn_23 rfl (fun _ => ?_) (fun q__ => absurd (by decide) q__)
      refine r_iinc 85 rfl (nI ((w + 1) + 1)) [some (.ref 4), some (.int (nI c)), some (.int (nI ea)), some (.int (nI wi)), some (.int wl), some (.ref 32), some (.int (if sp_gw (sp_E g (sp_b wl) fd ea wi) u c w = true then 1 else 0)), some (.int (nI ((w + 1) + 1))), some (.int (-1)), none] dX7_spreadOn_82 rfl (nI_1 _) (by decide) rfl ?_
      refine r_goto 6 dX7_spreadOn_85 rfl ?_
      refine AW.drop 8 [some (.ref 4), some (.int (nI c)), some (.int (nI ea)), some (.int (nI wi)), some (.int wl), some (.ref 32), some (.int (if sp_gw (sp_E g (sp_b wl) fd ea wi) u c w = true then 1 else 0)), some (.int (nI ((w + 1) + 1))), none, none] rfl ?_
      have e1 : sp_fire (sp_E g (sp_b wl) fd ea wi) v c (w + 1) = false := by
        unfold sp_fire; rw [show sp_E g (sp_b wl) fd ea wi c (w + 1) = none by unfold sp_E; rw [hto]]
      have e2 : sp_w (sp_E g (sp_b wl) fd ea wi) u c (w + 1) = v := by show sp_st _ (sp_w _ u c w) c (w + 1) = v; rw [hv, sp_st_eq e1]
      have e3 : sp_gw (sp_E g (sp_b wl) fd ea wi) u c (w + 1) = sp_gw (sp_E g (sp_b wl) fd ea wi) u c w := by show (sp_gw _ u c w || sp_fire _ (sp_w _ u c w) c (w + 1)) = _; rw [hv, e1, Bool.or_false]
      rw [← e3]
      exact ih (w + 1) (by omega) m' (fun j hj => by rw [e2]; exact hm j hj) hag
set_option maxHeartbeats 4000000 in
set_option maxRecDepth 20000 in
theorem c_spreadOn_32 {Q : am_P} {z : am_Z} {m : Nat → Nat → Int32} {n : Nat} (g : Nat → Nat) (hg : ∀ j, j < 8 → m 5 j = nI (g j) ∧ g j ≤ 2) {fd : Nat} (hfd : m 4 2 = nI fd) (hf1 : 1 ≤ fd) (hf3 : fd ≤ 3) {c ea wi : Nat} {wl : Int32} (hc : c < 8) (hea : ea ≤ 1) (hwi : wi ≤ 4) (u : Nat → Nat) (hu : ∀ j, u j ≤ 9) (hm : ∀ j, j < 8 → m 32 j = nI (u j)) (k : ∀ m', (∀ j, j < 8 → m' 32 j = nI (sp_w (sp_E g (sp_b wl) fd ea wi) u c 4 j)) → ag [32] m m' → Q (some (.int (if sp_gw (sp_E g (sp_b wl) fd ea wi) u c 4 = true then 1 else 0))) (wd z m') n) : AW mX7_spreadOn Q 0 (am_ent (am_l mX7_spreadOn) [.ref 4, .int (nI c), .int (nI ea), .int (nI wi), .int wl, .ref 32]) [] (wd z m) n 0 0 := by
  show AW _ _ 0 [some (.ref 4), some (.int (nI c)), some (.int (nI ea)), some (.int (nI wi)), some (.int wl), some (.ref 32), none, none, none, none] [] _ _ 0 0
  refine r_iconst 1 rfl 0 dX7_spreadOn_0 rfl ?_
  refine r_istore 3 rfl [some (.ref 4), some (.int (nI c)), some (.int (nI ea)), some (.int (nI wi)), some (.int wl), some (.ref 32), some (.int 0), none, none, none] dX7_spreadOn_1 (by decide) rfl ?_
  refine r_iconst 4 rfl 1 dX7_spreadOn_3 rfl ?_
  refine r_istore 6 rfl [some (.ref 4), some (.int (nI c)), some (.int (nI ea)), some (.int (nI wi)), some (.int wl), some (.ref 32), some (.int 0), some (.int 1), none, none] dX7_spreadOn_4 (by decide) rfl ?_
  exact lp_spreadOn_32 g hg hfd hf1 hf3 hc hea hwi u hu k 4 0 rfl m hm (ag_r _ _)
