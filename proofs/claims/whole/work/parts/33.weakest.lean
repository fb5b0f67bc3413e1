theorem C10_42 {m m' : Nat → Nat → Int32} {D : Nat → Nat → Nat} (hC : C10 m D) (hag : ag [42, 43, 44, 45] m m') (g : ∀ j, j < 6 * D 7 1 → m' 42 j = m 42 j) : C10 m' D := by
  obtain ⟨hg, hfd, hf3, hf0, hns, hn7, hmr, hwi, hw4, hfr, hr1, hhr, hh⟩ := id hC
  refine ⟨fun j hj => ?_, ?_, hf3, hf0, ?_, hn7, fun s hs => ?_, ?_, hw4, ?_, hr1, ?_, hh⟩
  · rw [hag 39 (by decide)]; exact hg j hj
  · rw [hag 37 (by decide)]; exact hfd
  · rw [hag 37 (by decide)]; exact hns
  · rw [g (6 * s) (by omega), g (6 * s + 1) (by omega), g (6 * s + 2) (by omega), g (6 * s + 3) (by omega), g (6 * s + 4) (by omega), g (6 * s + 5) (by omega)]
    exact hmr s hs
  · rw [hag 37 (by decide)]; exact hwi
  · rw [hag 37 (by decide)]; exact hfr
  · rw [hag 37 (by decide)]; exact hhr
theorem wk_t {D : Nat → Nat → Nat} {c k : Nat} (h1 : D 0 (k % 8) = 0) (h2 : MO D c < LF D (k % 8) (k / 8 + 1) c) : wk_P D c k = true := by
  unfold wk_P; simp [h1, h2]
theorem wk_f {D : Nat → Nat → Nat} {c k : Nat} (h : ¬ (D 0 (k % 8) = 0 ∧ MO D c < LF D (k % 8) (k / 8 + 1) c)) : ¬ wk_P D c k = true := fun q => by
  unfold wk_P at q; simp at q; exact h q

set_option maxHeartbeats 4000000 in
set_option maxRecDepth 20000 in
theorem lp_weak9 {Q : am_P} {z : am_Z} {m : Nat → Nat → Int32} {n : Nat} {D : Nat → Nat → Nat} (hC : C9 z m D) (hA : AIR m D) (hf1 : 1 ≤ D 7 0) {c p w : Nat} (hc : c < 8) (hp : p < 3) (hw : w ≤ 1) {V : Int32} (kq : ∀ m', ag [33] m m' → Q (some (.int V)) (wd z m') n) : ∀ (d k : Nat), k + d = 72 → k < 72 → fw (wk_P D c) w d k = V → ∀ m', ag [33] m m' → AW mX9_weakest Q 68 [some (.ref 1), some (.int (nI c)), some (.int (nI p)), some (.int (nI w)), some (.int (nI (k / 8 + 1))), some (.int (nI (k % 8)))] [] (wd z m') n 0 0 := by
  intro d
  induction d with
  | zero => intro k h1 h2; omega
  | succ d ih =>
    intro k hk h72 hV m' hag
    have hk8 : k % 8 < 8 := Nat.mod_lt _ (by decide)
    have hC' := C9_ag hC hag (by decide)
    have hA' := AIR_ag hA hag (by decide)
    have hV0 : fw (wk_P D c) w (d + 1) k = if wk_P D c k = true then fw_r w k else fw (wk_P D c) w d (k + 1) := rfl
    rw [hV0] at hV
    by_cases hop : D 0 (k % 8) = 0
    · by_cases hwin : MO D c < LF D (k % 8) (k / 8 + 1) c
      · rw [if_pos (wk_t hop hwin)] at hV
        rw [← hV] at kq
        refine r_iload 70 rfl dX9_weakest_68 rfl ?_
        refine r_bipush 72 rfl 8 dX9_weakest_70 (by decide) ?_
        refine r_icmp_ge 75 117 rfl dX9_weakest_72 rfl (fun q__ => absurd q__ (fun q__ => absurd ((nI_leI (a := 8) (b := (k % 8)) (by omega) (by omega)).mp q__) (by omega))) (fun _ => ?_)
        refine r_aload_n 76 rfl 0 dX9_weakest_75 rfl rfl ?_
        refine r_getf (v := .ref 4) (k := 1) 79 rfl dX9_weakest_76 (gf_X9_19_9 rfl) rfl rfl ?_
        refine r_iload 81 rfl dX9_weakest_79 rfl ?_
        refine q_V 84 0 0 rfl [.int (nI (k % 8))] rfl dX9_weakest_81 cl_X9_weakest__X7_isOpen (lk_X9_116 rfl) im_X7_isOpen (ci := 7) rfl sl_X7__X7_isOpen rfl (Nat.le_of_ble_eq_true rfl) (fun _ _ => Nat.le_of_ble_eq_true rfl) rfl rfl (Nat.le_of_ble_eq_true rfl) (Nat.le_of_ble_eq_true rfl) ?_
        refine c_isOpen_t hC' hk8 hop (k_i ?_)
        refine r_if_eq 87 111 rfl dX9_weakest_84 rfl (fun q__ => absurd q__ (by decide)) (fun _ => ?_)
        refine r_aload_n 88 rfl 0 dX9_weakest_87 rfl rfl ?_
        refine r_iload_n 89 rfl 1 dX9_weakest_88 rfl rfl ?_
        refine r_iload 91 rfl dX9_weakest_89 rfl ?_
        refine r_iload 93 rfl dX9_weakest_91 rfl ?_
        refine q_V 96 0 0 rfl [.int (nI c), .int (nI (k % 8)), .int (nI (k / 8 + 1))] rfl dX9_weakest_93 cl_X9_weakest__X9_wouldWin (lk_X9_198 rfl) im_X9_wouldWin (ci := 9) rfl sl_X9__X9_wouldWin rfl (Nat.le_of_ble_eq_true rfl) (fun _ _ => Nat.le_of_ble_eq_true rfl) rfl rfl (Nat.le_of_ble_eq_true rfl) (Nat.le_of_ble_eq_true rfl) ?_
        refine c_ww_1 hC' hA' hk8 (by omega) hf1 hc hwin (fun m2 hag2 => (k_i ?_))
        have hag3 := ag_t hag hag2 (by decide)
        refine r_if_eq 99 111 rfl dX9_weakest_96 rfl (fun q__ => absurd q__ (by decide)) (fun _ => ?_)
        refine r_iload_n 100 rfl 3 dX9_weakest_99 rfl rfl ?_
        refine r_if_ne 103 108 rfl dX9_weakest_100 rfl (fun c100 => ?_) (fun c100 => ?_)
        · replace c100 : ¬ w = 0 := fun q__ => c100 ((nI_eq (a := w) (b := 0) (by omega) (by omega)).mpr q__)
          refine r_iload 110 rfl dX9_weakest_108 rfl ?_
          refine r_ireturn rfl dX9_weakest_110 (Nat.le_of_ble_eq_true rfl) (Nat.le_of_ble_eq_true rfl) ?_
          have e : fw_r w k = nI (k % 8) := if_neg (by omega)
          rw [e] at kq
          exact kq _ hag3
        · replace c100 : w = 0 := (nI_eq (a := w) (b := 0) (by omega) (by omega)).mp c100
          refine r_iload 105 rfl dX9_weakest_103 rfl ?_
          refine r_goto 110 dX9_weakest_105 rfl ?_
          refine r_ireturn rfl dX9_weakest_110 (Nat.le_of_ble_eq_true rfl) (Nat.le_of_ble_eq_true rfl) ?_
          have e : fw_r w k = nI (k / 8 + 1) := if_pos (by omega)
          rw [e] at kq
          exact kq _ hag3
      · refine r_iload 70 rfl dX9_weakest_68 rfl ?_
        refine r_bipush 72 rfl 8 dX9_weakest_70 (by decide) ?_
        refine r_icmp_ge 75 117 rfl dX9_weakest_72 rfl (fun q__ => absurd q__ (fun q__ => absurd ((nI_leI (a := 8) (b := (k % 8)) (by omega) (by omega)).mp q__) (by omega))) (fun _ => ?_)
        refine r_aload_n 76 rfl 0 dX9_weakest_75 rfl rfl ?_
        refine r_getf (v := .ref 4) (k := 1) 79 rfl dX9_weakest_76 (gf_X9_19_9 rfl) rfl rfl ?_
        refine r_iload 81 rfl dX9_weakest_79 rfl ?_
        refine q_V 84 0 0 rfl [.int (nI (k % 8))] rfl dX9_weakest_81 cl_X9_weakest__X7_isOpen (lk_X9_116 rfl) im_X7_isOpen (ci := 7) rfl sl_X7__X7_isOpen rfl (Nat.le_of_ble_eq_true rfl) (fun _ _ => Nat.le_of_ble_eq_true rfl) rfl rfl (Nat.le_of_ble_eq_true rfl) (Nat.le_of_ble_eq_true rfl) ?_
        refine c_isOpen_t hC' hk8 hop (k_i ?_)
        refine r_if_eq 87 111 rfl dX9_weakest_84 rfl (fun q__ => absurd q__ (by decide)) (fun _ => ?_)
        refine r_aload_n 88 rfl 0 dX9_weakest_87 rfl rfl ?_
        refine r_iload_n 89 rfl 1 dX9_weakest_88 rfl rfl ?_
        refine r_iload 91 rfl dX9_weakest_89 rfl ?_
        refine r_iload 93 rfl dX9_weakest_91 rfl ?_
        refine q_V 96 0 0 rfl [.int (nI c), .int (nI (k % 8)), .int (nI (k / 8 + 1))] rfl dX9_weakest_93 cl_X9_weakest__X9_wouldWin (lk_X9_198 rfl) im_X9_wouldWin (ci := 9) rfl sl_X9__X9_wouldWin rfl (Nat.le_of_ble_eq_true rfl) (fun _ _ => Nat.le_of_ble_eq_true rfl) rfl rfl (Nat.le_of_ble_eq_true rfl) (Nat.le_of_ble_eq_true rfl) ?_
        refine c_ww_0 hC' hA' hk8 (by omega) hf1 hc hwin (fun m2 hag2 => (k_i ?_))
        have hag3 := ag_t hag hag2 (by decide)
        refine r_if_eq 99 111 rfl dX9_weakest_96 rfl (fun _ => ?_) (fun q__ => absurd (by decide) q__)
        refine r_iinc 114 rfl (nI ((k % 8) + 1)) [some (.ref 1), some (.int (nI c)), some (.int (nI p)), some (.int (nI w)), some (.int (nI (k / 8 + 1))), some (.int (nI ((k % 8) + 1)))] dX9_weakest_111 rfl (nI_1 _) (by decide) rfl ?_
        refine r_goto 68 dX9_weakest_114 rfl ?_
        rw [if_neg (wk_f (fun q => hwin q.2))] at hV
        have hx := fun (h' : k + 1 < 72) => ih (k + 1) (by omega) h' hV _ hag3
        by_cases h8 : k % 8 + 1 < 8
        · have hx := hx (by omega)
          rw [show (k + 1) % 8 = k % 8 + 1 by omega, show (k + 1) / 8 = k / 8 by omega] at hx
          exact hx
        · refine r_iload 70 rfl dX9_weakest_68 rfl ?_
          refine r_bipush 72 rfl 8 dX9_weakest_70 (by decide) ?_
          refine r_icmp_ge 75 117 rfl dX9_weakest_72 rfl (fun _ => ?_) (fun q__ => absurd ((nI_leI (a := 8) (b := ((k % 8) + 1)) (by omega) (by omega)).mpr (by omega)) q__)
          refine r_iinc 120 rfl (nI ((k / 8 + 1) + 1)) [some (.ref 1), some (.int (nI c)), some (.int (nI p)), some (.int (nI w)), some (.int (nI ((k / 8 + 1) + 1))), some (.int (nI ((k % 8) + 1)))] dX9_weakest_117 rfl (nI_1 _) (by decide) rfl ?_
          refine r_goto 58 dX9_weakest_120 rfl ?_
          by_cases h9 : k + 1 < 72
          · refine r_iload 60 rfl dX9_weakest_58 rfl ?_
            refine r_bipush 62 rfl 9 dX9_weakest_60 (by decide) ?_
            refine r_icmp_gt 65 123 rfl dX9_weakest_62 rfl (fun q__ => absurd q__ (fun q__ => absurd ((nI_ltI (a := 9) (b := (k / 8 + 1 + 1)) (by omega) (by omega)).mp q__) (by omega))) (fun _ => ?_)
            refine r_iconst 66 rfl 0 dX9_weakest_65 rfl ?_
            refine r_istore 68 rfl [some (.ref 1), some (.int (nI c)), some (.int (nI p)), some (.int (nI w)), some (.int (nI (k / 8 + 1 + 1))), some (.int 0)] dX9_weakest_66 (by decide) rfl ?_
            have hx := hx h9
            rw [show (k + 1) % 8 = 0 by omega, show (k + 1) / 8 = k / 8 + 1 by omega] at hx
            exact hx
          · have k0 := kq
            refine r_iload 60 rfl dX9_weakest_58 rfl ?_
            refine r_bipush 62 rfl 9 dX9_weakest_60 (by decide) ?_
            refine r_icmp_gt 65 123 rfl dX9_weakest_62 rfl (fun _ => ?_) (fun q__ => absurd ((nI_ltI (a := 9) (b := (k / 8 + 1 + 1)) (by omega) (by omega)).mpr (by omega)) q__)
            refine r_iconst 124 rfl (-1) dX9_weakest_123 rfl ?_
            refine r_ireturn rfl dX9_weakest_124 (Nat.le_of_ble_eq_true rfl) (Nat.le_of_ble_eq_true rfl) ?_
            obtain rfl : d = 0 := by omega
            rw [← hV] at k0
            exact k0 _ hag3
    · refine r_iload 70 rfl dX9_weakest_68 rfl ?_
      refine r_bipush 72 rfl 8 dX9_weakest_70 (by decide) ?_
      refine r_icmp_ge 75 117 rfl dX9_weakest_72 rfl (fun q__ => absurd q__ (fun q__ => absurd ((nI_leI (a := 8) (b := (k % 8)) (by omega) (by omega)).mp q__) (by omega))) (fun _ => ?_)
      refine r_aload_n 76 rfl 0 dX9_weakest_75 rfl rfl ?_
      refine r_getf (v := .ref 4) (k := 1) 79 rfl dX9_weakest_76 (gf_X9_19_9 rfl) rfl rfl ?_
      refine r_iload 81 rfl dX9_weakest_79 rfl ?_
      refine q_V 84 0 0 rfl [.int (nI (k % 8))] rfl dX9_weakest_81 cl_X9_weakest__X7_isOpen (lk_X9_116 rfl) im_X7_isOpen (ci := 7) rfl sl_X7__X7_isOpen rfl (Nat.le_of_ble_eq_true rfl) (fun _ _ => Nat.le_of_ble_eq_true rfl) rfl rfl (Nat.le_of_ble_eq_true rfl) (Nat.le_of_ble_eq_true rfl) ?_
      refine c_isOpen_f hC' hk8 hop (k_i ?_)
      refine r_if_eq 87 111 rfl dX9_weakest_84 rfl (fun _ => ?_) (fun q__ => absurd (by decide) q__)
      refine r_iinc 114 rfl (nI ((k % 8) + 1)) [some (.ref 1), some (.int (nI c)), some (.int (nI p)), some (.int (nI w)), some (.int (nI (k / 8 + 1))), some (.int (nI ((k % 8) + 1)))] dX9_weakest_111 rfl (nI_1 _) (by decide) rfl ?_
      refine r_goto 68 dX9_weakest_114 rfl ?_
      rw [if_neg (wk_f (fun q => hop q.1))] at hV
      have hx := fun (h' : k + 1 < 72) => ih (k + 1) (by omega) h' hV _ hag
      by_cases h8 : k % 8 + 1 < 8
      · have hx := hx (by omega)
        rw [show (k + 1) % 8 = k % 8 + 1 by omega, show (k + 1) / 8 = k / 8 by omega] at hx
        exact hx
      · refine r_iload 70 rfl dX9_weakest_68 rfl ?_
        refine r_bipush 72 rfl 8 dX9_weakest_70 (by decide) ?_
        refine r_icmp_ge 75 117 rfl dX9_weakest_72 rfl (fun _ => ?_) (fun q__ => absurd ((nI_leI (a := 8) (b := ((k % 8) + 1)) (by omega) (by omega)).mpr (by omega)) q__)
        refine r_iinc 120 rfl (nI ((k / 8 + 1) + 1)) [some (.ref 1), some (.int (nI c)), some (.int (nI p)), some (.int (nI w)), some (.int (nI ((k / 8 + 1) + 1))), some (.int (nI ((k % 8) + 1)))] dX9_weakest_117 rfl (nI_1 _) (by decide) rfl ?_
        refine r_goto 58 dX9_weakest_120 rfl ?_
        by_cases h9 : k + 1 < 72
        · refine r_iload 60 rfl dX9_weakest_58 rfl ?_
          refine r_bipush 62 rfl 9 dX9_weakest_60 (by decide) ?_
          refine r_icmp_gt 65 123 rfl dX9_weakest_62 rfl (fun q__ => absurd q__ (fun q__ => absurd ((nI_ltI (a := 9) (b := (k / 8 + 1 + 1)) (by omega) (by omega)).mp q__) (by omega))) (fun _ => ?_)
          refine r_iconst 66 rfl 0 dX9_weakest_65 rfl ?_
          refine r_istore 68 rfl [some (.ref 1), some (.int (nI c)), some (.int (nI p)), some (.int (nI w)), some (.int (nI (k / 8 + 1 + 1))), some (.int 0)] dX9_weakest_66 (by decide) rfl ?_
          have hx := hx h9
          rw [show (k + 1) % 8 = 0 by omega, show (k + 1) / 8 = k / 8 + 1 by omega] at hx
          exact hx
        · have k0 := kq
          refine r_iload 60 rfl dX9_weakest_58 rfl ?_
          refine r_bipush 62 rfl 9 dX9_weakest_60 (by decide) ?_
          refine r_icmp_gt 65 123 rfl dX9_weakest_62 rfl (fun _ => ?_) (fun q__ => absurd ((nI_ltI (a := 9) (b := (k / 8 + 1 + 1)) (by omega) (by omega)).mpr (by omega)) q__)
          refine r_iconst 124 rfl (-1) dX9_weakest_123 rfl ?_
          refine r_ireturn rfl dX9_weakest_124 (Nat.le_of_ble_eq_true rfl) (Nat.le_of_ble_eq_true rfl) ?_
          obtain rfl : d = 0 := by omega
          rw [← hV] at k0
          exact k0 _ hag

set_option maxHeartbeats 4000000 in
set_option maxRecDepth 20000 in
theorem lp_weak10 {Q : am_P} {z : am_Z} {m : Nat → Nat → Int32} {n : Nat} {D : Nat → Nat → Nat} (hC : C10 m D) (hn : D 7 1 ≤ 6) (hf1 : 1 ≤ D 7 0) {c p w : Nat} (hc : c < 8) (hp : p < 3) (hw : w ≤ 1) (hwp : ¬ WH D c = nI p) {V : Int32} (kq : ∀ m', (∀ j, j < 6 * D 7 1 → m' 42 j = m 42 j) → ag [42, 43, 44, 45] m m' → Q (some (.int V)) (wd z m') n) : ∀ (d k : Nat), k + d = 72 → k < 72 → fw (wk_P D c) w d k = V → ∀ m', (∀ j, j < 6 * D 7 1 → m' 42 j = m 42 j) → ag [42, 43, 44, 45] m m' → AW mX10_weakestOf Q 36 [some (.ref 37), some (.int (nI c)), some (.int (nI p)), some (.int (nI w)), some (.int (nI (k / 8 + 1))), some (.int (nI (k % 8)))] [] (wd z m') n 0 0 := by
  intro d
  induction d with
  | zero => intro k h1 h2; omega
  | succ d ih =>
    intro k hk h72 hV m' h42 hag
    have hk8 : k % 8 < 8 := Nat.mod_lt _ (by decide)
    have hC' := C10_42 hC hag h42
    have hgk := hC'.1 (k % 8) hk8
    have hV0 : fw (wk_P D c) w (d + 1) k = if wk_P D c k = true then fw_r w k else fw (wk_P D c) w d (k + 1) := rfl
    rw [hV0] at hV
    by_cases hop : D 0 (k % 8) = 0
    · by_cases hwin : MO D c < LF D (k % 8) (k / 8 + 1) c
      · rw [if_pos (wk_t hop hwin)] at hV
        rw [← hV] at kq
        refine r_iload 38 rfl dX10_weakestOf_36 rfl ?_
        refine r_bipush 40 rfl 8 dX10_weakestOf_38 (by decide) ?_
        refine r_icmp_ge 43 85 rfl dX10_weakestOf_40 rfl (fun q__ => absurd q__ (fun q__ => absurd ((nI_leI (a := 8) (b := (k % 8)) (by omega) (by omega)).mp q__) (by omega))) (fun _ => ?_)
        refine r_aload_n 44 rfl 0 dX10_weakestOf_43 rfl rfl ?_
        refine r_getf (v := .ref 39) (k := 7) 47 rfl dX10_weakestOf_44 (gf_X10_13_10 rfl) rfl rfl ?_
        refine r_iload 49 rfl dX10_weakestOf_47 rfl ?_
        refine r_iald (f := m' 39) 50 rfl (k % 8) dX10_weakestOf_49 rfl rfl (by omega) (by decide) ?_
        rw [show (m' 39) (k % 8) = nI (D 0 (k % 8)) from hgk.1]
        refine r_if_ne 53 79 rfl dX10_weakestOf_50 rfl (fun q__ => absurd ((nI_eq (a := (D 0 (k % 8))) (b := 0) (by omega) (by omega)).mpr (by omega)) q__) (fun _ => ?_)
        refine r_aload_n 54 rfl 0 dX10_weakestOf_53 rfl rfl ?_
        refine r_iload_n 55 rfl 1 dX10_weakestOf_54 rfl rfl ?_
        refine r_iload_n 56 rfl 2 dX10_weakestOf_55 rfl rfl ?_
        refine r_iload 58 rfl dX10_weakestOf_56 rfl ?_
        refine r_iload 60 rfl dX10_weakestOf_58 rfl ?_
        refine q_V 63 0 0 rfl [.int (nI c), .int (nI p), .int (nI (k % 8)), .int (nI (k / 8 + 1))] rfl dX10_weakestOf_60 cl_X10_weakestOf__X10_whoseBy (lk_X10_176 rfl) im_X10_whoseBy (ci := 10) rfl sl_X10__X10_whoseBy rfl (Nat.le_of_ble_eq_true rfl) (fun _ _ => Nat.le_of_ble_eq_true rfl) rfl rfl (Nat.le_of_ble_eq_true rfl) (Nat.le_of_ble_eq_true rfl) ?_
        refine c_whoseBy hC' hn hf1 (pa := p) hc hp hk8 (by omega) (fun m2 _ _ g42 hag2 => (k_i ?_))
        have hag3 := ag_t hag hag2 (by decide)
        have h43 : ∀ j, j < 6 * D 7 1 → m2 42 j = m 42 j := fun j hj => (g42 j hj).trans (h42 j hj)
        have hWX : WX D p (k % 8) (k / 8 + 1) c = if MO D c < LF D (k % 8) (k / 8 + 1) c then nI p else WH D c := rfl
        refine r_iload_n 64 rfl 2 dX10_weakestOf_63 rfl rfl ?_
        refine r_icmp_ne 67 79 rfl dX10_weakestOf_64 rfl (fun q__ => absurd (by rw [hWX, if_pos hwin]) q__) (fun _ => ?_)
        refine r_iload_n 68 rfl 3 dX10_weakestOf_67 rfl rfl ?_
        refine r_if_ne 71 76 rfl dX10_weakestOf_68 rfl (fun c68 => ?_) (fun c68 => ?_)
        · replace c68 : ¬ w = 0 := fun q__ => c68 ((nI_eq (a := w) (b := 0) (by omega) (by omega)).mpr q__)
          refine r_iload 78 rfl dX10_weakestOf_76 rfl ?_
          refine r_ireturn rfl dX10_weakestOf_78 (Nat.le_of_ble_eq_true rfl) (Nat.le_of_ble_eq_true rfl) ?_
          have e : fw_r w k = nI (k % 8) := if_neg (by omega)
          rw [e] at kq
          exact kq _ h43 hag3
        · replace c68 : w = 0 := (nI_eq (a := w) (b := 0) (by omega) (by omega)).mp c68
          refine r_iload 73 rfl dX10_weakestOf_71 rfl ?_
          refine r_goto 78 dX10_weakestOf_73 rfl ?_
          refine r_ireturn rfl dX10_weakestOf_78 (Nat.le_of_ble_eq_true rfl) (Nat.le_of_ble_eq_true rfl) ?_
          have e : fw_r w k = nI (k / 8 + 1) := if_pos (by omega)
          rw [e] at kq
          exact kq _ h43 hag3
      · refine r_iload 38 rfl dX10_weakestOf_36 rfl ?_
        refine r_bipush 40 rfl 8 dX10_weakestOf_38 (by decide) ?_
        refine r_icmp_ge 43 85 rfl dX10_weakestOf_40 rfl (fun q__ => absurd q__ (fun q__ => absurd ((nI_leI (a := 8) (b := (k % 8)) (by omega) (by omega)).mp q__) (by omega))) (fun _ => ?_)
        refine r_aload_n 44 rfl 0 dX10_weakestOf_43 rfl rfl ?_
        refine r_getf (v := .ref 39) (k := 7) 47 rfl dX10_weakestOf_44 (gf_X10_13_10 rfl) rfl rfl ?_
        refine r_iload 49 rfl dX10_weakestOf_47 rfl ?_
        refine r_iald (f := m' 39) 50 rfl (k % 8) dX10_weakestOf_49 rfl rfl (by omega) (by decide) ?_
        rw [show (m' 39) (k % 8) = nI (D 0 (k % 8)) from hgk.1]
        refine r_if_ne 53 79 rfl dX10_weakestOf_50 rfl (fun q__ => absurd ((nI_eq (a := (D 0 (k % 8))) (b := 0) (by omega) (by omega)).mpr (by omega)) q__) (fun _ => ?_)
        refine r_aload_n 54 rfl 0 dX10_weakestOf_53 rfl rfl ?_
        refine r_iload_n 55 rfl 1 dX10_weakestOf_54 rfl rfl ?_
        refine r_iload_n 56 rfl 2 dX10_weakestOf_55 rfl rfl ?_
        refine r_iload 58 rfl dX10_weakestOf_56 rfl ?_
        refine r_iload 60 rfl dX10_weakestOf_58 rfl ?_
        refine q_V 63 0 0 rfl [.int (nI c), .int (nI p), .int (nI (k % 8)), .int (nI (k / 8 + 1))] rfl dX10_weakestOf_60 cl_X10_weakestOf__X10_whoseBy (lk_X10_176 rfl) im_X10_whoseBy (ci := 10) rfl sl_X10__X10_whoseBy rfl (Nat.le_of_ble_eq_true rfl) (fun _ _ => Nat.le_of_ble_eq_true rfl) rfl rfl (Nat.le_of_ble_eq_true rfl) (Nat.le_of_ble_eq_true rfl) ?_
        refine c_whoseBy hC' hn hf1 (pa := p) hc hp hk8 (by omega) (fun m2 _ _ g42 hag2 => (k_i ?_))
        have hag3 := ag_t hag hag2 (by decide)
        have h43 : ∀ j, j < 6 * D 7 1 → m2 42 j = m 42 j := fun j hj => (g42 j hj).trans (h42 j hj)
        have hWX : WX D p (k % 8) (k / 8 + 1) c = if MO D c < LF D (k % 8) (k / 8 + 1) c then nI p else WH D c := rfl
        refine r_iload_n 64 rfl 2 dX10_weakestOf_63 rfl rfl ?_
        refine r_icmp_ne 67 79 rfl dX10_weakestOf_64 rfl (fun _ => ?_) (fun q__ => absurd q__ (by rw [hWX, if_neg hwin]; exact hwp))
        refine r_iinc 82 rfl (nI ((k % 8) + 1)) [some (.ref 37), some (.int (nI c)), some (.int (nI p)), some (.int (nI w)), some (.int (nI (k / 8 + 1))), some (.int (nI ((k % 8) + 1)))] dX10_weakestOf_79 rfl (nI_1 _) (by decide) rfl ?_
        refine r_goto 36 dX10_weakestOf_82 rfl ?_
        rw [if_neg (wk_f (fun q => hwin q.2))] at hV
        have hx := fun (h' : k + 1 < 72) => ih (k + 1) (by omega) h' hV _ h43 hag3
        by_cases h8 : k % 8 + 1 < 8
        · have hx := hx (by omega)
          rw [show (k + 1) % 8 = k % 8 + 1 by omega, show (k + 1) / 8 = k / 8 by omega] at hx
          exact hx
        · refine r_iload 38 rfl dX10_weakestOf_36 rfl ?_
          refine r_bipush 40 rfl 8 dX10_weakestOf_38 (by decide) ?_
          refine r_icmp_ge 43 85 rfl dX10_weakestOf_40 rfl (fun _ => ?_) (fun q__ => absurd ((nI_leI (a := 8) (b := ((k % 8) + 1)) (by omega) (by omega)).mpr (by omega)) q__)
          refine r_iinc 88 rfl (nI ((k / 8 + 1) + 1)) [some (.ref 37), some (.int (nI c)), some (.int (nI p)), some (.int (nI w)), some (.int (nI ((k / 8 + 1) + 1))), some (.int (nI ((k % 8) + 1)))] dX10_weakestOf_85 rfl (nI_1 _) (by decide) rfl ?_
          refine r_goto 26 dX10_weakestOf_88 rfl ?_
          by_cases h9 : k + 1 < 72
          · refine r_iload 28 rfl dX10_weakestOf_26 rfl ?_
            refine r_bipush 30 rfl 10 dX10_weakestOf_28 (by decide) ?_
            refine r_icmp_ge 33 91 rfl dX10_weakestOf_30 rfl (fun q__ => absurd q__ (fun q__ => absurd ((nI_leI (a := 10) (b := (k / 8 + 1 + 1)) (by omega) (by omega)).mp q__) (by omega))) (fun _ => ?_)
            refine r_iconst 34 rfl 0 dX10_weakestOf_33 rfl ?_
            refine r_istore 36 rfl [some (.ref 37), some (.int (nI c)), some (.int (nI p)), some (.int (nI w)), some (.int (nI (k / 8 + 1 + 1))), some (.int 0)] dX10_weakestOf_34 (by decide) rfl ?_
            have hx := hx h9
            rw [show (k + 1) % 8 = 0 by omega, show (k + 1) / 8 = k / 8 + 1 by omega] at hx
            exact hx
          · have k0 := kq
            refine r_iload 28 rfl dX10_weakestOf_26 rfl ?_
            refine r_bipush 30 rfl 10 dX10_weakestOf_28 (by decide) ?_
            refine r_icmp_ge 33 91 rfl dX10_weakestOf_30 rfl (fun _ => ?_) (fun q__ => absurd ((nI_leI (a := 10) (b := (k / 8 + 1 + 1)) (by omega) (by omega)).mpr (by omega)) q__)
            refine r_iconst 92 rfl (-1) dX10_weakestOf_91 rfl ?_
            refine r_ireturn rfl dX10_weakestOf_92 (Nat.le_of_ble_eq_true rfl) (Nat.le_of_ble_eq_true rfl) ?_
            obtain rfl : d = 0 := by omega
            rw [← hV] at k0
            exact k0 _ h43 hag3
    · have hgk2 := hgk.2
      refine r_iload 38 rfl dX10_weakestOf_36 rfl ?_
      refine r_bipush 40 rfl 8 dX10_weakestOf_38 (by decide) ?_
      refine r_icmp_ge 43 85 rfl dX10_weakestOf_40 rfl (fun q__ => absurd q__ (fun q__ => absurd ((nI_leI (a := 8) (b := (k % 8)) (by omega) (by omega)).mp q__) (by omega))) (fun _ => ?_)
      refine r_aload_n 44 rfl 0 dX10_weakestOf_43 rfl rfl ?_
      refine r_getf (v := .ref 39) (k := 7) 47 rfl dX10_weakestOf_44 (gf_X10_13_10 rfl) rfl rfl ?_
      refine r_iload 49 rfl dX10_weakestOf_47 rfl ?_
      refine r_iald (f := m' 39) 50 rfl (k % 8) dX10_weakestOf_49 rfl rfl (by omega) (by decide) ?_
      rw [show (m' 39) (k % 8) = nI (D 0 (k % 8)) from hgk.1]
      refine r_if_ne 53 79 rfl dX10_weakestOf_50 rfl (fun _ => ?_) (fun q__ => absurd q__ (fun q__ => absurd ((nI_eq (a := (D 0 (k % 8))) (b := 0) (by omega) (by omega)).mp q__) (by omega)))
      refine r_iinc 82 rfl (nI ((k % 8) + 1)) [some (.ref 37), some (.int (nI c)), some (.int (nI p)), some (.int (nI w)), some (.int (nI (k / 8 + 1))), some (.int (nI ((k % 8) + 1)))] dX10_weakestOf_79 rfl (nI_1 _) (by decide) rfl ?_
      refine r_goto 36 dX10_weakestOf_82 rfl ?_
      rw [if_neg (wk_f (fun q => hop q.1))] at hV
      have hx := fun (h' : k + 1 < 72) => ih (k + 1) (by omega) h' hV _ h42 hag
      by_cases h8 : k % 8 + 1 < 8
      · have hx := hx (by omega)
        rw [show (k + 1) % 8 = k % 8 + 1 by omega, show (k + 1) / 8 = k / 8 by omega] at hx
        exact hx
      · refine r_iload 38 rfl dX10_weakestOf_36 rfl ?_
        refine r_bipush 40 rfl 8 dX10_weakestOf_38 (by decide) ?_
        refine r_icmp_ge 43 85 rfl dX10_weakestOf_40 rfl (fun _ => ?_) (fun q__ => absurd ((nI_leI (a := 8) (b := ((k % 8) + 1)) (by omega) (by omega)).mpr (by omega)) q__)
        refine r_iinc 88 rfl (nI ((k / 8 + 1) + 1)) [some (.ref 37), some (.int (nI c)), some (.int (nI p)), some (.int (nI w)), some (.int (nI ((k / 8 + 1) + 1))), some (.int (nI ((k % 8) + 1)))] dX10_weakestOf_85 rfl (nI_1 _) (by decide) rfl ?_
        refine r_goto 26 dX10_weakestOf_88 rfl ?_
        by_cases h9 : k + 1 < 72
        · refine r_iload 28 rfl dX10_weakestOf_26 rfl ?_
          refine r_bipush 30 rfl 10 dX10_weakestOf_28 (by decide) ?_
          refine r_icmp_ge 33 91 rfl dX10_weakestOf_30 rfl (fun q__ => absurd q__ (fun q__ => absurd ((nI_leI (a := 10) (b := (k / 8 + 1 + 1)) (by omega) (by omega)).mp q__) (by omega))) (fun _ => ?_)
          refine r_iconst 34 rfl 0 dX10_weakestOf_33 rfl ?_
          refine r_istore 36 rfl [some (.ref 37), some (.int (nI c)), some (.int (nI p)), some (.int (nI w)), some (.int (nI (k / 8 + 1 + 1))), some (.int 0)] dX10_weakestOf_34 (by decide) rfl ?_
          have hx := hx h9
          rw [show (k + 1) % 8 = 0 by omega, show (k + 1) / 8 = k / 8 + 1 by omega] at hx
          exact hx
        · have k0 := kq
          refine r_iload 28 rfl dX10_weakestOf_26 rfl ?_
          refine r_bipush 30 rfl 10 dX10_weakestOf_28 (by decide) ?_
          refine r_icmp_ge 33 91 rfl dX10_weakestOf_30 rfl (fun _ => ?_) (fun q__ => absurd ((nI_leI (a := 10) (b := (k / 8 + 1 + 1)) (by omega) (by omega)).mpr (by omega)) q__)
          refine r_iconst 92 rfl (-1) dX10_weakestOf_91 rfl ?_
          refine r_ireturn rfl dX10_weakestOf_92 (Nat.le_of_ble_eq_true rfl) (Nat.le_of_ble_eq_true rfl) ?_
          obtain rfl : d = 0 := by omega
          rw [← hV] at k0
          exact k0 _ h42 hag

set_option maxHeartbeats 4000000 in
set_option maxRecDepth 20000 in
theorem c9_weakest_n {Q : am_P} {z : am_Z} {m : Nat → Nat → Int32} {n : Nat} {D : Nat → Nat → Nat} (hC : C9 z m D){x : Int32} (hx : D 7 0 = 0 ∨ x.toInt < 0 ∨ 8 ≤ x.toInt) {y u : Int32} (k : Q (some (.int (-101))) (wd z m) n) : AW mX9_weakest Q 0 (am_ent (am_l mX9_weakest) [.ref 1, .int x, .int y, .int u]) [] (wd z m) n 0 0 := by
  show AW _ _ 0 [some (.ref 1), some (.int x), some (.int y), some (.int u), none, none] [] _ _ 0 0
  obtain ⟨hg, hfd, hf3, hf0, hns, hn6, hsd, hsb, hwi, hw4, hfr, hr1, hhr, hh⟩ := id hC
  refine r_aload_n 1 rfl 0 dX9_weakest_0 rfl rfl ?_
  refine r_iload_n 2 rfl 1 dX9_weakest_1 rfl rfl ?_
  refine q_V 5 0 0 rfl [.int x] rfl dX9_weakest_2 cl_X9_weakest__X9_isCell (lk_X9_99 rfl) im_X9_isCell (ci := 9) rfl sl_X9__X9_isCell rfl (Nat.le_of_ble_eq_true rfl) (fun _ _ => Nat.le_of_ble_eq_true rfl) rfl rfl (Nat.le_of_ble_eq_true rfl) (Nat.le_of_ble_eq_true rfl) ?_
  refine c_isCell_f hfd hf3 hx (k_i ?_)
  refine r_if_ne 8 11 rfl dX9_weakest_5 rfl (fun q__ => absurd (by decide) q__) (fun _ => ?_)
  refine r_bipush 10 rfl (-101) dX9_weakest_8 (by decide) ?_
  refine r_ireturn rfl dX9_weakest_10 (Nat.le_of_ble_eq_true rfl) (Nat.le_of_ble_eq_true rfl) ?_
  exact k

set_option maxHeartbeats 4000000 in
set_option maxRecDepth 20000 in
theorem c9_weakest_o1 {Q : am_P} {z : am_Z} {m : Nat → Nat → Int32} {n : Nat} {D : Nat → Nat → Nat} (hC : C9 z m D){c : Nat} (hc : c < 8) (hf1 : 1 ≤ D 7 0){y : Int32} (hy : y.toInt < 0 ∨ 3 ≤ y.toInt) {u : Int32} (k : Q (some (.int (-102))) (wd z m) n) : AW mX9_weakest Q 0 (am_ent (am_l mX9_weakest) [.ref 1, .int (nI c), .int y, .int u]) [] (wd z m) n 0 0 := by
  show AW _ _ 0 [some (.ref 1), some (.int (nI c)), some (.int y), some (.int u), none, none] [] _ _ 0 0
  obtain ⟨hg, hfd, hf3, hf0, hns, hn6, hsd, hsb, hwi, hw4, hfr, hr1, hhr, hh⟩ := id hC
  refine r_aload_n 1 rfl 0 dX9_weakest_0 rfl rfl ?_
  refine r_iload_n 2 rfl 1 dX9_weakest_1 rfl rfl ?_
  refine q_V 5 0 0 rfl [.int (nI c)] rfl dX9_weakest_2 cl_X9_weakest__X9_isCell (lk_X9_99 rfl) im_X9_isCell (ci := 9) rfl sl_X9__X9_isCell rfl (Nat.le_of_ble_eq_true rfl) (fun _ _ => Nat.le_of_ble_eq_true rfl) rfl rfl (Nat.le_of_ble_eq_true rfl) (Nat.le_of_ble_eq_true rfl) ?_
  refine c_isCell_t hc hfd hf1 hf3 (k_i ?_)
  refine r_if_ne 8 11 rfl dX9_weakest_5 rfl (fun _ => ?_) (fun q__ => absurd q__ (by decide))
  refine r_iload_n 12 rfl 2 dX9_weakest_11 rfl rfl ?_
  refine q_S 15 0 0 rfl [.int y] rfl dX9_weakest_12 cl_X9_weakest__X9_isParish (lk_X9_113 rfl) st_X9_isParish (Nat.le_of_ble_eq_true rfl) (fun _ _ => Nat.le_of_ble_eq_true rfl) rfl rfl (Nat.le_of_ble_eq_true rfl) (Nat.le_of_ble_eq_true rfl) ?_
  refine c_isPar_f hy (k_i ?_)
  refine r_if_eq 18 25 rfl dX9_weakest_15 rfl (fun _ => ?_) (fun q__ => absurd (by decide) q__)
  refine r_bipush 27 rfl (-102) dX9_weakest_25 (by decide) ?_
  refine r_ireturn rfl dX9_weakest_27 (Nat.le_of_ble_eq_true rfl) (Nat.le_of_ble_eq_true rfl) ?_
  exact k

set_option maxHeartbeats 4000000 in
set_option maxRecDepth 20000 in
theorem c9_weakest_o2 {Q : am_P} {z : am_Z} {m : Nat → Nat → Int32} {n : Nat} {D : Nat → Nat → Nat} (hC : C9 z m D){c : Nat} (hc : c < 8) (hf1 : 1 ≤ D 7 0){p : Nat} (hp : p < 3) {u : Int32} (hu : u.toInt < 0 ∨ 2 ≤ u.toInt) (k : Q (some (.int (-102))) (wd z m) n) : AW mX9_weakest Q 0 (am_ent (am_l mX9_weakest) [.ref 1, .int (nI c), .int (nI p), .int u]) [] (wd z m) n 0 0 := by
  show AW _ _ 0 [some (.ref 1), some (.int (nI c)), some (.int (nI p)), some (.int u), none, none] [] _ _ 0 0
  obtain ⟨hg, hfd, hf3, hf0, hns, hn6, hsd, hsb, hwi, hw4, hfr, hr1, hhr, hh⟩ := id hC
  refine r_aload_n 1 rfl 0 dX9_weakest_0 rfl rfl ?_
  refine r_iload_n 2 rfl 1 dX9_weakest_1 rfl rfl ?_
  refine q_V 5 0 0 rfl [.int (nI c)] rfl dX9_weakest_2 cl_X9_weakest__X9_isCell (lk_X9_99 rfl) im_X9_isCell (ci := 9) rfl sl_X9__X9_isCell rfl (Nat.le_of_ble_eq_true rfl) (fun _ _ => Nat.le_of_ble_eq_true rfl) rfl rfl (Nat.le_of_ble_eq_true rfl) (Nat.le_of_ble_eq_true rfl) ?_
  refine c_isCell_t hc hfd hf1 hf3 (k_i ?_)
  refine r_if_ne 8 11 rfl dX9_weakest_5 rfl (fun _ => ?_) (fun q__ => absurd q__ (by decide))
  refine r_iload_n 12 rfl 2 dX9_weakest_11 rfl rfl ?_
  refine q_S 15 0 0 rfl [.int (nI p)] rfl dX9_weakest_12 cl_X9_weakest__X9_isParish (lk_X9_113 rfl) st_X9_isParish (Nat.le_of_ble_eq_true rfl) (fun _ _ => Nat.le_of_ble_eq_true rfl) rfl rfl (Nat.le_of_ble_eq_true rfl) (Nat.le_of_ble_eq_true rfl) ?_
  refine c_isPar_t hp (k_i ?_)
  refine r_if_eq 18 25 rfl dX9_weakest_15 rfl (fun q__ => absurd q__ (by decide)) (fun _ => ?_)
  refine r_iload_n 19 rfl 3 dX9_weakest_18 rfl rfl ?_
  refine q_S 22 0 0 rfl [.int u] rfl dX9_weakest_19 cl_X9_weakest__X9_isZeroOrOne (lk_X9_195 rfl) st_X9_isZeroOrOne (Nat.le_of_ble_eq_true rfl) (fun _ _ => Nat.le_of_ble_eq_true rfl) rfl rfl (Nat.le_of_ble_eq_true rfl) (Nat.le_of_ble_eq_true rfl) ?_
  refine c_is01_f (by omega) (k_i ?_)
  refine r_if_ne 25 28 rfl dX9_weakest_22 rfl (fun q__ => absurd (by decide) q__) (fun _ => ?_)
  refine r_bipush 27 rfl (-102) dX9_weakest_25 (by decide) ?_
  refine r_ireturn rfl dX9_weakest_27 (Nat.le_of_ble_eq_true rfl) (Nat.le_of_ble_eq_true rfl) ?_
  exact k

set_option maxHeartbeats 4000000 in
set_option maxRecDepth 20000 in
theorem c10_weakest_n {Q : am_P} {z : am_Z} {m : Nat → Nat → Int32} {n : Nat} {D : Nat → Nat → Nat} (hC : C10 m D){x : Int32} (hx : D 7 0 = 0 ∨ x.toInt < 0 ∨ 8 ≤ x.toInt) {y u : Int32} (k : Q (some (.int (-101))) (wd z m) n) : AW mX10_weakest Q 0 (am_ent (am_l mX10_weakest) [.ref 37, .int x, .int y, .int u]) [] (wd z m) n 0 0 := by
  show AW _ _ 0 [some (.ref 37), some (.int x), some (.int y), some (.int u)] [] _ _ 0 0
  obtain ⟨hg, hfd, hf3, hf0, hns, hn7, hmr, hwi, hw4, hfr, hr1, hhr, hh⟩ := id hC
  refine r_aload_n 1 rfl 0 dX10_weakest_0 rfl rfl ?_
  refine r_iload_n 2 rfl 1 dX10_weakest_1 rfl rfl ?_
  refine q_V 5 0 0 rfl [.int x] rfl dX10_weakest_2 cl_X10_weakest__X10_isCell (lk_X10_119 rfl) im_X10_isCell (ci := 10) rfl sl_X10__X10_isCell rfl (Nat.le_of_ble_eq_true rfl) (fun _ _ => Nat.le_of_ble_eq_true rfl) rfl rfl (Nat.le_of_ble_eq_true rfl) (Nat.le_of_ble_eq_true rfl) ?_
  refine c10_isCell_f hfd hf3 hx (k_i ?_)
  refine r_if_ne 8 11 rfl dX10_weakest_5 rfl (fun q__ => absurd (by decide) q__) (fun _ => ?_)
  refine r_bipush 10 rfl (-101) dX10_weakest_8 (by decide) ?_
  refine r_ireturn rfl dX10_weakest_10 (Nat.le_of_ble_eq_true rfl) (Nat.le_of_ble_eq_true rfl) ?_
  exact k

set_option maxHeartbeats 4000000 in
set_option maxRecDepth 20000 in
theorem c10_weakest_o1 {Q : am_P} {z : am_Z} {m : Nat → Nat → Int32} {n : Nat} {D : Nat → Nat → Nat} (hC : C10 m D){c : Nat} (hc : c < 8) (hf1 : 1 ≤ D 7 0){y : Int32} (hy : y.toInt < 0 ∨ 3 ≤ y.toInt) {u : Int32} (k : Q (some (.int (-102))) (wd z m) n) : AW mX10_weakest Q 0 (am_ent (am_l mX10_weakest) [.ref 37, .int (nI c), .int y, .int u]) [] (wd z m) n 0 0 := by
  show AW _ _ 0 [some (.ref 37), some (.int (nI c)), some (.int y), some (.int u)] [] _ _ 0 0
  obtain ⟨hg, hfd, hf3, hf0, hns, hn7, hmr, hwi, hw4, hfr, hr1, hhr, hh⟩ := id hC
  refine r_aload_n 1 rfl 0 dX10_weakest_0 rfl rfl ?_
  refine r_iload_n 2 rfl 1 dX10_weakest_1 rfl rfl ?_
  refine q_V 5 0 0 rfl [.int (nI c)] rfl dX10_weakest_2 cl_X10_weakest__X10_isCell (lk_X10_119 rfl) im_X10_isCell (ci := 10) rfl sl_X10__X10_isCell rfl (Nat.le_of_ble_eq_true rfl) (fun _ _ => Nat.le_of_ble_eq_true rfl) rfl rfl (Nat.le_of_ble_eq_true rfl) (Nat.le_of_ble_eq_true rfl) ?_
  refine c10_isCell_t hc hfd hf1 hf3 (k_i ?_)
  refine r_if_ne 8 11 rfl dX10_weakest_5 rfl (fun _ => ?_) (fun q__ => absurd q__ (by decide))
  refine r_iload_n 12 rfl 2 dX10_weakest_11 rfl rfl ?_
  refine r_i2l 13 rfl dX10_weakest_12 ?_
  refine r_lconst 14 rfl 0 dX10_weakest_13 rfl ?_
  refine r_ldc2 17 rfl 2 dX10_weakest_14 (cn_X10_115 rfl) ?_
  refine q_S 20 0 0 rfl [.long y.toInt64, .long 0, .long 2] rfl dX10_weakest_17 cl_X10_weakest__X10_in (lk_X10_64 rfl) st_X10_in (Nat.le_of_ble_eq_true rfl) (fun _ _ => Nat.le_of_ble_eq_true rfl) rfl rfl (Nat.le_of_ble_eq_true rfl) (Nat.le_of_ble_eq_true rfl) ?_
  refine c_in_f (show y.toInt64.toInt < (0 : Int) ∨ (2 : Int) < y.toInt64.toInt by rw [Int32.toInt_toInt64]; omega) (k_i ?_)
  refine r_if_eq 23 43 rfl dX10_weakest_20 rfl (fun _ => ?_) (fun q__ => absurd (by decide) q__)
  refine r_bipush 45 rfl (-102) dX10_weakest_43 (by decide) ?_
  refine r_ireturn rfl dX10_weakest_45 (Nat.le_of_ble_eq_true rfl) (Nat.le_of_ble_eq_true rfl) ?_
  exact k

set_option maxHeartbeats 4000000 in
set_option maxRecDepth 20000 in
theorem c10_weakest_o2 {Q : am_P} {z : am_Z} {m : Nat → Nat → Int32} {n : Nat} {D : Nat → Nat → Nat} (hC : C10 m D){c : Nat} (hc : c < 8) (hf1 : 1 ≤ D 7 0){p : Nat} (hp : p < 3) {u : Int32} (hu : u.toInt < 0 ∨ 2 ≤ u.toInt) (k : Q (some (.int (-102))) (wd z m) n) : AW mX10_weakest Q 0 (am_ent (am_l mX10_weakest) [.ref 37, .int (nI c), .int (nI p), .int u]) [] (wd z m) n 0 0 := by
  show AW _ _ 0 [some (.ref 37), some (.int (nI c)), some (.int (nI p)), some (.int u)] [] _ _ 0 0
  obtain ⟨hg, hfd, hf3, hf0, hns, hn7, hmr, hwi, hw4, hfr, hr1, hhr, hh⟩ := id hC
  refine r_aload_n 1 rfl 0 dX10_weakest_0 rfl rfl ?_
  refine r_iload_n 2 rfl 1 dX10_weakest_1 rfl rfl ?_
  refine q_V 5 0 0 rfl [.int (nI c)] rfl dX10_weakest_2 cl_X10_weakest__X10_isCell (lk_X10_119 rfl) im_X10_isCell (ci := 10) rfl sl_X10__X10_isCell rfl (Nat.le_of_ble_eq_true rfl) (fun _ _ => Nat.le_of_ble_eq_true rfl) rfl rfl (Nat.le_of_ble_eq_true rfl) (Nat.le_of_ble_eq_true rfl) ?_
  refine c10_isCell_t hc hfd hf1 hf3 (k_i ?_)
  refine r_if_ne 8 11 rfl dX10_weakest_5 rfl (fun _ => ?_) (fun q__ => absurd q__ (by decide))
  refine r_iload_n 12 rfl 2 dX10_weakest_11 rfl rfl ?_
  refine r_i2l 13 rfl dX10_weakest_12 ?_
  refine r_lconst 14 rfl 0 dX10_weakest_13 rfl ?_
  refine r_ldc2 17 rfl 2 dX10_weakest_14 (cn_X10_115 rfl) ?_
  refine q_S 20 0 0 rfl [.long ((nI p).toInt64), .long 0, .long 2] rfl dX10_weakest_17 cl_X10_weakest__X10_in (lk_X10_64 rfl) st_X10_in (Nat.le_of_ble_eq_true rfl) (fun _ _ => Nat.le_of_ble_eq_true rfl) rfl rfl (Nat.le_of_ble_eq_true rfl) (Nat.le_of_ble_eq_true rfl) ?_
  refine c_in_t (show (0 : Int) ≤ (nI p).toInt64.toInt by rw [Int32.toInt_toInt64, nI_toInt (by omega)]; omega) (show (nI p).toInt64.toInt ≤ (2 : Int) by rw [Int32.toInt_toInt64, nI_toInt (by omega)]; omega) (k_i ?_)
  refine r_if_eq 23 43 rfl dX10_weakest_20 rfl (fun q__ => absurd q__ (by decide)) (fun _ => ?_)
  refine r_iload_n 24 rfl 3 dX10_weakest_23 rfl rfl ?_
  refine r_i2l 25 rfl dX10_weakest_24 ?_
  refine r_lconst 26 rfl 0 dX10_weakest_25 rfl ?_
  refine r_lconst 27 rfl 1 dX10_weakest_26 rfl ?_
  refine q_S 30 0 0 rfl [.long u.toInt64, .long 0, .long 1] rfl dX10_weakest_27 cl_X10_weakest__X10_in (lk_X10_64 rfl) st_X10_in (Nat.le_of_ble_eq_true rfl) (fun _ _ => Nat.le_of_ble_eq_true rfl) rfl rfl (Nat.le_of_ble_eq_true rfl) (Nat.le_of_ble_eq_true rfl) ?_
  refine c_in_f (show u.toInt64.toInt < (0 : Int) ∨ (1 : Int) < u.toInt64.toInt by rw [Int32.toInt_toInt64]; omega) (k_i ?_)
  refine r_if_eq 33 43 rfl dX10_weakest_30 rfl (fun _ => ?_) (fun q__ => absurd (by decide) q__)
  refine r_bipush 45 rfl (-102) dX10_weakest_43 (by decide) ?_
  refine r_ireturn rfl dX10_weakest_45 (Nat.le_of_ble_eq_true rfl) (Nat.le_of_ble_eq_true rfl) ?_
  exact k

set_option maxHeartbeats 4000000 in
set_option maxRecDepth 20000 in
theorem c9_weakest_e {Q : am_P} {z : am_Z} {m : Nat → Nat → Int32} {n : Nat} {D : Nat → Nat → Nat} (hC : C9 z m D){c p w : Nat} (hc : c < 8) (hf1 : 1 ≤ D 7 0) (hp : p < 3) (hw : w ≤ 1) (he : WH D c = nI p) (k : ∀ m', ag [29, 30, 31, 32, 33] m m' → Q (some (.int (if w = 0 then 0 else -1))) (wd z m') n) : AW mX9_weakest Q 0 (am_ent (am_l mX9_weakest) [.ref 1, .int (nI c), .int (nI p), .int (nI w)]) [] (wd z m) n 0 0 := by
  show AW _ _ 0 [some (.ref 1), some (.int (nI c)), some (.int (nI p)), some (.int (nI w)), none, none] [] _ _ 0 0
  obtain ⟨hg, hfd, hf3, hf0, hns, hn6, hsd, hsb, hwi, hw4, hfr, hr1, hhr, hh⟩ := id hC
  refine r_aload_n 1 rfl 0 dX9_weakest_0 rfl rfl ?_
  refine r_iload_n 2 rfl 1 dX9_weakest_1 rfl rfl ?_
  refine q_V 5 0 0 rfl [.int (nI c)] rfl dX9_weakest_2 cl_X9_weakest__X9_isCell (lk_X9_99 rfl) im_X9_isCell (ci := 9) rfl sl_X9__X9_isCell rfl (Nat.le_of_ble_eq_true rfl) (fun _ _ => Nat.le_of_ble_eq_true rfl) rfl rfl (Nat.le_of_ble_eq_true rfl) (Nat.le_of_ble_eq_true rfl) ?_
  refine c_isCell_t hc hfd hf1 hf3 (k_i ?_)
  refine r_if_ne 8 11 rfl dX9_weakest_5 rfl (fun _ => ?_) (fun q__ => absurd q__ (by decide))
  refine r_iload_n 12 rfl 2 dX9_weakest_11 rfl rfl ?_
  refine q_S 15 0 0 rfl [.int (nI p)] rfl dX9_weakest_12 cl_X9_weakest__X9_isParish (lk_X9_113 rfl) st_X9_isParish (Nat.le_of_ble_eq_true rfl) (fun _ _ => Nat.le_of_ble_eq_true rfl) rfl rfl (Nat.le_of_ble_eq_true rfl) (Nat.le_of_ble_eq_true rfl) ?_
  refine c_isPar_t hp (k_i ?_)
  refine r_if_eq 18 25 rfl dX9_weakest_15 rfl (fun q__ => absurd q__ (by decide)) (fun _ => ?_)
  refine r_iload_n 19 rfl 3 dX9_weakest_18 rfl rfl ?_
  refine q_S 22 0 0 rfl [.int (nI w)] rfl dX9_weakest_19 cl_X9_weakest__X9_isZeroOrOne (lk_X9_195 rfl) st_X9_isZeroOrOne (Nat.le_of_ble_eq_true rfl) (fun _ _ => Nat.le_of_ble_eq_true rfl) rfl rfl (Nat.le_of_ble_eq_true rfl) (Nat.le_of_ble_eq_true rfl) ?_
  refine c_is01_t hw (k_i ?_)
  refine r_if_ne 25 28 rfl dX9_weakest_22 rfl (fun _ => ?_) (fun q__ => absurd q__ (by decide))
  refine r_aload_n 29 rfl 0 dX9_weakest_28 rfl rfl ?_
  refine q_V 32 0 0 rfl [] rfl dX9_weakest_29 cl_X9_weakest__X9_settleNow (lk_X9_103 rfl) im_X9_settleNow (ci := 9) rfl sl_X9__X9_settleNow rfl (Nat.le_of_ble_eq_true rfl) (fun _ _ => Nat.le_of_ble_eq_true rfl) rfl rfl (Nat.le_of_ble_eq_true rfl) (Nat.le_of_ble_eq_true rfl) ?_
  refine c_settleNow hC (fun m' hA hag => (k_v ?_))
  have e31 : m' 31 c = WH D c := (hA c hc).2.2
  refine r_aload_n 33 rfl 0 dX9_weakest_32 rfl rfl ?_
  refine r_getf (v := .ref 28) (k := 6) 36 rfl dX9_weakest_33 (gf_X9_45_9 rfl) rfl rfl ?_
  refine r_getf (v := .ref 31) (k := 2) 39 rfl dX9_weakest_36 (gf_X9_183_0 rfl) rfl rfl ?_
  refine r_iload_n 40 rfl 1 dX9_weakest_39 rfl rfl ?_
  refine r_iald (f := m' 31) 41 rfl c dX9_weakest_40 rfl rfl (by omega) (by decide) ?_
  rw [show (m' 31) c = WH D c from e31]
  refine r_iload_n 42 rfl 2 dX9_weakest_41 rfl rfl ?_
  refine r_icmp_ne 45 55 rfl dX9_weakest_42 rfl (fun q__ => absurd he q__) (fun _ => ?_)
  refine r_iload_n 46 rfl 3 dX9_weakest_45 rfl rfl ?_
  refine r_if_ne 49 53 rfl dX9_weakest_46 rfl (fun c46 => ?_) (fun c46 => ?_)
  · replace c46 : ¬ w = 0 := fun q__ => c46 ((nI_eq (a := w) (b := 0) (by omega) (by omega)).mpr q__)
    refine r_iconst 54 rfl (-1) dX9_weakest_53 rfl ?_
    refine r_ireturn rfl dX9_weakest_54 (Nat.le_of_ble_eq_true rfl) (Nat.le_of_ble_eq_true rfl) ?_
    rw [show (if w = 0 then (0 : Int32) else -1) = (-1) from if_neg (by omega)] at k
    exact k m' (ag_w hag (by decide))
  · replace c46 : w = 0 := (nI_eq (a := w) (b := 0) (by omega) (by omega)).mp c46
    refine r_iconst 50 rfl 0 dX9_weakest_49 rfl ?_
    refine r_goto 54 dX9_weakest_50 rfl ?_
    refine r_ireturn rfl dX9_weakest_54 (Nat.le_of_ble_eq_true rfl) (Nat.le_of_ble_eq_true rfl) ?_
    rw [show (if w = 0 then (0 : Int32) else -1) = 0 from if_pos (by omega)] at k
    exact k m' (ag_w hag (by decide))

set_option maxHeartbeats 4000000 in
set_option maxRecDepth 20000 in
theorem c9_weakest_t {Q : am_P} {z : am_Z} {m : Nat → Nat → Int32} {n : Nat} {D : Nat → Nat → Nat} (hC : C9 z m D){c p w : Nat} (hc : c < 8) (hf1 : 1 ≤ D 7 0) (hp : p < 3) (hw : w ≤ 1) (he : ¬ WH D c = nI p) (k : ∀ m', ag [29, 30, 31, 32, 33] m m' → Q (some (.int (fw (wk_P D c) w 72 0))) (wd z m') n) : AW mX9_weakest Q 0 (am_ent (am_l mX9_weakest) [.ref 1, .int (nI c), .int (nI p), .int (nI w)]) [] (wd z m) n 0 0 := by
  show AW _ _ 0 [some (.ref 1), some (.int (nI c)), some (.int (nI p)), some (.int (nI w)), none, none] [] _ _ 0 0
  obtain ⟨hg, hfd, hf3, hf0, hns, hn6, hsd, hsb, hwi, hw4, hfr, hr1, hhr, hh⟩ := id hC
  refine r_aload_n 1 rfl 0 dX9_weakest_0 rfl rfl ?_
  refine r_iload_n 2 rfl 1 dX9_weakest_1 rfl rfl ?_
  refine q_V 5 0 0 rfl [.int (nI c)] rfl dX9_weakest_2 cl_X9_weakest__X9_isCell (lk_X9_99 rfl) im_X9_isCell (ci := 9) rfl sl_X9__X9_isCell rfl (Nat.le_of_ble_eq_true rfl) (fun _ _ => Nat.le_of_ble_eq_true rfl) rfl rfl (Nat.le_of_ble_eq_true rfl) (Nat.le_of_ble_eq_true rfl) ?_
  refine c_isCell_t hc hfd hf1 hf3 (k_i ?_)
  refine r_if_ne 8 11 rfl dX9_weakest_5 rfl (fun _ => ?_) (fun q__ => absurd q__ (by decide))
  refine r_iload_n 12 rfl 2 dX9_weakest_11 rfl rfl ?_
  refine q_S 15 0 0 rfl [.int (nI p)] rfl dX9_weakest_12 cl_X9_weakest__X9_isParish (lk_X9_113 rfl) st_X9_isParish (Nat.le_of_ble_eq_true rfl) (fun _ _ => Nat.le_of_ble_eq_true rfl) rfl rfl (Nat.le_of_ble_eq_true rfl) (Nat.le_of_ble_eq_true rfl) ?_
  refine c_isPar_t hp (k_i ?_)
  refine r_if_eq 18 25 rfl dX9_weakest_15 rfl (fun q__ => absurd q__ (by decide)) (fun _ => ?_)
  refine r_iload_n 19 rfl 3 dX9_weakest_18 rfl rfl ?_
  refine q_S 22 0 0 rfl [.int (nI w)] rfl dX9_weakest_19 cl_X9_weakest__X9_isZeroOrOne (lk_X9_195 rfl) st_X9_isZeroOrOne (Nat.le_of_ble_eq_true rfl) (fun _ _ => Nat.le_of_ble_eq_true rfl) rfl rfl (Nat.le_of_ble_eq_true rfl) (Nat.le_of_ble_eq_true rfl) ?_
  refine c_is01_t hw (k_i ?_)
  refine r_if_ne 25 28 rfl dX9_weakest_22 rfl (fun _ => ?_) (fun q__ => absurd q__ (by decide))
  refine r_aload_n 29 rfl 0 dX9_weakest_28 rfl rfl ?_
  refine q_V 32 0 0 rfl [] rfl dX9_weakest_29 cl_X9_weakest__X9_settleNow (lk_X9_103 rfl) im_X9_settleNow (ci := 9) rfl sl_X9__X9_settleNow rfl (Nat.le_of_ble_eq_true rfl) (fun _ _ => Nat.le_of_ble_eq_true rfl) rfl rfl (Nat.le_of_ble_eq_true rfl) (Nat.le_of_ble_eq_true rfl) ?_
  refine c_settleNow hC (fun m' hA hag => (k_v ?_))
  have e31 : m' 31 c = WH D c := (hA c hc).2.2
  refine r_aload_n 33 rfl 0 dX9_weakest_32 rfl rfl ?_
  refine r_getf (v := .ref 28) (k := 6) 36 rfl dX9_weakest_33 (gf_X9_45_9 rfl) rfl rfl ?_
  refine r_getf (v := .ref 31) (k := 2) 39 rfl dX9_weakest_36 (gf_X9_183_0 rfl) rfl rfl ?_
  refine r_iload_n 40 rfl 1 dX9_weakest_39 rfl rfl ?_
  refine r_iald (f := m' 31) 41 rfl c dX9_weakest_40 rfl rfl (by omega) (by decide) ?_
  rw [show (m' 31) c = WH D c from e31]
  refine r_iload_n 42 rfl 2 dX9_weakest_41 rfl rfl ?_
  refine r_icmp_ne 45 55 rfl dX9_weakest_42 rfl (fun _ => ?_) (fun q__ => absurd q__ he)
  refine r_iconst 56 rfl 1 dX9_weakest_55 rfl ?_
  refine r_istore 58 rfl [some (.ref 1), some (.int (nI c)), some (.int (nI p)), some (.int (nI w)), some (.int 1), none] dX9_weakest_56 (by decide) rfl ?_
  refine r_iload 60 rfl dX9_weakest_58 rfl ?_
  refine r_bipush 62 rfl 9 dX9_weakest_60 (by decide) ?_
  refine r_icmp_gt 65 123 rfl dX9_weakest_62 rfl (fun q__ => absurd q__ (fun q__ => absurd ((nI_ltI (a := 9) (b := 1) (by omega) (by omega)).mp q__) (by omega))) (fun _ => ?_)
  refine r_iconst 66 rfl 0 dX9_weakest_65 rfl ?_
  refine r_istore 68 rfl [some (.ref 1), some (.int (nI c)), some (.int (nI p)), some (.int (nI w)), some (.int 1), some (.int 0)] dX9_weakest_66 (by decide) rfl ?_
  exact lp_weak9 (C9_ag hC hag (by decide)) hA hf1 hc hp hw (fun m2 hag2 => k m2 (ag_t (ag_w hag (by decide)) hag2 (by decide))) 72 0 rfl (by decide) rfl m' (ag_r _ _)

set_option maxHeartbeats 4000000 in
set_option maxRecDepth 20000 in
theorem c_weakestOf_e {Q : am_P} {z : am_Z} {m : Nat → Nat → Int32} {n : Nat} {D : Nat → Nat → Nat} (hC : C10 m D){c p w : Nat} (hc : c < 8) (hf1 : 1 ≤ D 7 0) (hp : p < 3) (hw : w ≤ 1) (he : WH D c = nI p) (k : ∀ m', ag [43, 44, 45] m m' → Q (some (.int (if w = 0 then 0 else -1))) (wd z m') n) : AW mX10_weakestOf Q 0 (am_ent (am_l mX10_weakestOf) [.ref 37, .int (nI c), .int (nI p), .int (nI w)]) [] (wd z m) n 0 0 := by
  show AW _ _ 0 [some (.ref 37), some (.int (nI c)), some (.int (nI p)), some (.int (nI w)), none, none] [] _ _ 0 0
  refine r_aload_n 1 rfl 0 dX10_weakestOf_0 rfl rfl ?_
  refine q_V 4 0 0 rfl [] rfl dX10_weakestOf_1 cl_X10_weakestOf__X10_layCells (lk_X10_149 rfl) im_X10_layCells (ci := 10) rfl sl_X10__X10_layCells rfl (Nat.le_of_ble_eq_true rfl) (fun _ _ => Nat.le_of_ble_eq_true rfl) rfl rfl (Nat.le_of_ble_eq_true rfl) (Nat.le_of_ble_eq_true rfl) ?_
  refine c_layC hC (fun m' hM hag => (k_v ?_))
  have hC' := C10_ag hC hag (by decide)
  refine r_aload_n 5 rfl 0 dX10_weakestOf_4 rfl rfl ?_
  refine r_iload_n 6 rfl 1 dX10_weakestOf_5 rfl rfl ?_
  refine q_V 9 0 0 rfl [.int (nI c)] rfl dX10_weakestOf_6 cl_X10_weakestOf__X10_whose (lk_X10_152 rfl) im_X10_whose (ci := 10) rfl sl_X10__X10_whose rfl (Nat.le_of_ble_eq_true rfl) (fun _ _ => Nat.le_of_ble_eq_true rfl) rfl rfl (Nat.le_of_ble_eq_true rfl) (Nat.le_of_ble_eq_true rfl) ?_
  refine c_who hC' hM hc (k_i ?_)
  refine r_iload_n 10 rfl 2 dX10_weakestOf_9 rfl rfl ?_
  refine r_icmp_ne 13 23 rfl dX10_weakestOf_10 rfl (fun q__ => absurd he q__) (fun _ => ?_)
  refine r_iload_n 14 rfl 3 dX10_weakestOf_13 rfl rfl ?_
  refine r_if_ne 17 21 rfl dX10_weakestOf_14 rfl (fun c14 => ?_) (fun c14 => ?_)
  · replace c14 : ¬ w = 0 := fun q__ => c14 ((nI_eq (a := w) (b := 0) (by omega) (by omega)).mpr q__)
    refine r_iconst 22 rfl (-1) dX10_weakestOf_21 rfl ?_
    refine r_ireturn rfl dX10_weakestOf_22 (Nat.le_of_ble_eq_true rfl) (Nat.le_of_ble_eq_true rfl) ?_
    rw [show (if w = 0 then (0 : Int32) else -1) = (-1) from if_neg (by omega)] at k
    exact k m' hag
  · replace c14 : w = 0 := (nI_eq (a := w) (b := 0) (by omega) (by omega)).mp c14
    refine r_iconst 18 rfl 0 dX10_weakestOf_17 rfl ?_
    refine r_goto 22 dX10_weakestOf_18 rfl ?_
    refine r_ireturn rfl dX10_weakestOf_22 (Nat.le_of_ble_eq_true rfl) (Nat.le_of_ble_eq_true rfl) ?_
    rw [show (if w = 0 then (0 : Int32) else -1) = 0 from if_pos (by omega)] at k
    exact k m' hag

set_option maxHeartbeats 4000000 in
set_option maxRecDepth 20000 in
theorem c_weakestOf_t {Q : am_P} {z : am_Z} {m : Nat → Nat → Int32} {n : Nat} {D : Nat → Nat → Nat} (hC : C10 m D) (hn : D 7 1 ≤ 6) {c p w : Nat} (hc : c < 8) (hf1 : 1 ≤ D 7 0) (hp : p < 3) (hw : w ≤ 1) (he : ¬ WH D c = nI p) (k : ∀ m', (∀ j, j < 6 * D 7 1 → m' 42 j = m 42 j) → ag [42, 43, 44, 45] m m' → Q (some (.int (fw (wk_P D c) w 72 0))) (wd z m') n) : AW mX10_weakestOf Q 0 (am_ent (am_l mX10_weakestOf) [.ref 37, .int (nI c), .int (nI p), .int (nI w)]) [] (wd z m) n 0 0 := by
  show AW _ _ 0 [some (.ref 37), some (.int (nI c)), some (.int (nI p)), some (.int (nI w)), none, none] [] _ _ 0 0
  refine r_aload_n 1 rfl 0 dX10_weakestOf_0 rfl rfl ?_
  refine q_V 4 0 0 rfl [] rfl dX10_weakestOf_1 cl_X10_weakestOf__X10_layCells (lk_X10_149 rfl) im_X10_layCells (ci := 10) rfl sl_X10__X10_layCells rfl (Nat.le_of_ble_eq_true rfl) (fun _ _ => Nat.le_of_ble_eq_true rfl) rfl rfl (Nat.le_of_ble_eq_true rfl) (Nat.le_of_ble_eq_true rfl) ?_
  refine c_layC hC (fun m' hM hag => (k_v ?_))
  have hC' := C10_ag hC hag (by decide)
  refine r_aload_n 5 rfl 0 dX10_weakestOf_4 rfl rfl ?_
  refine r_iload_n 6 rfl 1 dX10_weakestOf_5 rfl rfl ?_
  refine q_V 9 0 0 rfl [.int (nI c)] rfl dX10_weakestOf_6 cl_X10_weakestOf__X10_whose (lk_X10_152 rfl) im_X10_whose (ci := 10) rfl sl_X10__X10_whose rfl (Nat.le_of_ble_eq_true rfl) (fun _ _ => Nat.le_of_ble_eq_true rfl) rfl rfl (Nat.le_of_ble_eq_true rfl) (Nat.le_of_ble_eq_true rfl) ?_
  refine c_who hC' hM hc (k_i ?_)
  refine r_iload_n 10 rfl 2 dX10_weakestOf_9 rfl rfl ?_
  refine r_icmp_ne 13 23 rfl dX10_weakestOf_10 rfl (fun _ => ?_) (fun q__ => absurd q__ he)
  refine r_iconst 24 rfl 1 dX10_weakestOf_23 rfl ?_
  refine r_istore 26 rfl [some (.ref 37), some (.int (nI c)), some (.int (nI p)), some (.int (nI w)), some (.int 1), none] dX10_weakestOf_24 (by decide) rfl ?_
  refine r_iload 28 rfl dX10_weakestOf_26 rfl ?_
  refine r_bipush 30 rfl 10 dX10_weakestOf_28 (by decide) ?_
  refine r_icmp_ge 33 91 rfl dX10_weakestOf_30 rfl (fun q__ => absurd q__ (fun q__ => absurd ((nI_leI (a := 10) (b := 1) (by omega) (by omega)).mp q__) (by omega))) (fun _ => ?_)
  refine r_iconst 34 rfl 0 dX10_weakestOf_33 rfl ?_
  refine r_istore 36 rfl [some (.ref 37), some (.int (nI c)), some (.int (nI p)), some (.int (nI w)), some (.int 1), some (.int 0)] dX10_weakestOf_34 (by decide) rfl ?_
  exact lp_weak10 hC' hn hf1 hc hp hw he (fun m2 h42 hag2 => k m2 (fun j hj => (h42 j hj).trans (by rw [hag 42 (by decide)])) (ag_t (ag_w hag (by decide)) hag2 (by decide))) 72 0 rfl (by decide) rfl m' (fun _ _ => rfl) (ag_r _ _)

set_option maxHeartbeats 4000000 in
set_option maxRecDepth 20000 in
theorem c10_weakest_e {Q : am_P} {z : am_Z} {m : Nat → Nat → Int32} {n : Nat} {D : Nat → Nat → Nat} (hC : C10 m D){c p w : Nat} (hc : c < 8) (hf1 : 1 ≤ D 7 0) (hp : p < 3) (hw : w ≤ 1) (he : WH D c = nI p) (k : ∀ m', ag [43, 44, 45] m m' → Q (some (.int (if w = 0 then 0 else -1))) (wd z m') n) : AW mX10_weakest Q 0 (am_ent (am_l mX10_weakest) [.ref 37, .int (nI c), .int (nI p), .int (nI w)]) [] (wd z m) n 0 0 := by
  show AW _ _ 0 [some (.ref 37), some (.int (nI c)), some (.int (nI p)), some (.int (nI w))] [] _ _ 0 0
  obtain ⟨hg, hfd, hf3, hf0, hns, hn7, hmr, hwi, hw4, hfr, hr1, hhr, hh⟩ := id hC
  refine r_aload_n 1 rfl 0 dX10_weakest_0 rfl rfl ?_
  refine r_iload_n 2 rfl 1 dX10_weakest_1 rfl rfl ?_
  refine q_V 5 0 0 rfl [.int (nI c)] rfl dX10_weakest_2 cl_X10_weakest__X10_isCell (lk_X10_119 rfl) im_X10_isCell (ci := 10) rfl sl_X10__X10_isCell rfl (Nat.le_of_ble_eq_true rfl) (fun _ _ => Nat.le_of_ble_eq_true rfl) rfl rfl (Nat.le_of_ble_eq_true rfl) (Nat.le_of_ble_eq_true rfl) ?_
  refine c10_isCell_t hc hfd hf1 hf3 (k_i ?_)
  refine r_if_ne 8 11 rfl dX10_weakest_5 rfl (fun _ => ?_) (fun q__ => absurd q__ (by decide))
  refine r_iload_n 12 rfl 2 dX10_weakest_11 rfl rfl ?_
  refine r_i2l 13 rfl dX10_weakest_12 ?_
  refine r_lconst 14 rfl 0 dX10_weakest_13 rfl ?_
  refine r_ldc2 17 rfl 2 dX10_weakest_14 (cn_X10_115 rfl) ?_
  refine q_S 20 0 0 rfl [.long ((nI p).toInt64), .long 0, .long 2] rfl dX10_weakest_17 cl_X10_weakest__X10_in (lk_X10_64 rfl) st_X10_in (Nat.le_of_ble_eq_true rfl) (fun _ _ => Nat.le_of_ble_eq_true rfl) rfl rfl (Nat.le_of_ble_eq_true rfl) (Nat.le_of_ble_eq_true rfl) ?_
  refine c_in_t (show (0 : Int) ≤ (nI p).toInt64.toInt by rw [Int32.toInt_toInt64, nI_toInt (by omega)]; omega) (show (nI p).toInt64.toInt ≤ (2 : Int) by rw [Int32.toInt_toInt64, nI_toInt (by omega)]; omega) (k_i ?_)
  refine r_if_eq 23 43 rfl dX10_weakest_20 rfl (fun q__ => absurd q__ (by decide)) (fun _ => ?_)
  refine r_iload_n 24 rfl 3 dX10_weakest_23 rfl rfl ?_
  refine r_i2l 25 rfl dX10_weakest_24 ?_
  refine r_lconst 26 rfl 0 dX10_weakest_25 rfl ?_
  refine r_lconst 27 rfl 1 dX10_weakest_26 rfl ?_
  refine q_S 30 0 0 rfl [.long ((nI w).toInt64), .long 0, .long 1] rfl dX10_weakest_27 cl_X10_weakest__X10_in (lk_X10_64 rfl) st_X10_in (Nat.le_of_ble_eq_true rfl) (fun _ _ => Nat.le_of_ble_eq_true rfl) rfl rfl (Nat.le_of_ble_eq_true rfl) (Nat.le_of_ble_eq_true rfl) ?_
  refine c_in_t (show (0 : Int) ≤ (nI w).toInt64.toInt by rw [Int32.toInt_toInt64, nI_toInt (by omega)]; omega) (show (nI w).toInt64.toInt ≤ (1 : Int) by rw [Int32.toInt_toInt64, nI_toInt (by omega)]; omega) (k_i ?_)
  refine r_if_eq 33 43 rfl dX10_weakest_30 rfl (fun q__ => absurd q__ (by decide)) (fun _ => ?_)
  refine r_aload_n 34 rfl 0 dX10_weakest_33 rfl rfl ?_
  refine r_iload_n 35 rfl 1 dX10_weakest_34 rfl rfl ?_
  refine r_iload_n 36 rfl 2 dX10_weakest_35 rfl rfl ?_
  refine r_iload_n 37 rfl 3 dX10_weakest_36 rfl rfl ?_
  refine q_V 40 0 0 rfl [.int (nI c), .int (nI p), .int (nI w)] rfl dX10_weakest_37 cl_X10_weakest__X10_weakestOf (lk_X10_180 rfl) im_X10_weakestOf (ci := 10) rfl sl_X10__X10_weakestOf rfl (Nat.le_of_ble_eq_true rfl) (fun _ _ => Nat.le_of_ble_eq_true rfl) rfl rfl (Nat.le_of_ble_eq_true rfl) (Nat.le_of_ble_eq_true rfl) ?_
  refine c_weakestOf_e hC hc hf1 hp hw he (fun m' hag => (k_i ?_))
  refine r_goto 45 dX10_weakest_40 rfl ?_
  refine r_ireturn rfl dX10_weakest_45 (Nat.le_of_ble_eq_true rfl) (Nat.le_of_ble_eq_true rfl) ?_
  exact k m' hag

set_option maxHeartbeats 4000000 in
set_option maxRecDepth 20000 in
theorem c10_weakest_t {Q : am_P} {z : am_Z} {m : Nat → Nat → Int32} {n : Nat} {D : Nat → Nat → Nat} (hC : C10 m D) (hn : D 7 1 ≤ 6) {c p w : Nat} (hc : c < 8) (hf1 : 1 ≤ D 7 0) (hp : p < 3) (hw : w ≤ 1) (he : ¬ WH D c = nI p) (k : ∀ m', (∀ j, j < 6 * D 7 1 → m' 42 j = m 42 j) → ag [42, 43, 44, 45] m m' → Q (some (.int (fw (wk_P D c) w 72 0))) (wd z m') n) : AW mX10_weakest Q 0 (am_ent (am_l mX10_weakest) [.ref 37, .int (nI c), .int (nI p), .int (nI w)]) [] (wd z m) n 0 0 := by
  show AW _ _ 0 [some (.ref 37), some (.int (nI c)), some (.int (nI p)), some (.int (nI w))] [] _ _ 0 0
  obtain ⟨hg, hfd, hf3, hf0, hns, hn7, hmr, hwi, hw4, hfr, hr1, hhr, hh⟩ := id hC
  refine r_aload_n 1 rfl 0 dX10_weakest_0 rfl rfl ?_
  refine r_iload_n 2 rfl 1 dX10_weakest_1 rfl rfl ?_
  refine q_V 5 0 0 rfl [.int (nI c)] rfl dX10_weakest_2 cl_X10_weakest__X10_isCell (lk_X10_119 rfl) im_X10_isCell (ci := 10) rfl sl_X10__X10_isCell rfl (Nat.le_of_ble_eq_true rfl) (fun _ _ => Nat.le_of_ble_eq_true rfl) rfl rfl (Nat.le_of_ble_eq_true rfl) (Nat.le_of_ble_eq_true rfl) ?_
  refine c10_isCell_t hc hfd hf1 hf3 (k_i ?_)
  refine r_if_ne 8 11 rfl dX10_weakest_5 rfl (fun _ => ?_) (fun q__ => absurd q__ (by decide))
  refine r_iload_n 12 rfl 2 dX10_weakest_11 rfl rfl ?_
  refine r_i2l 13 rfl dX10_weakest_12 ?_
  refine r_lconst 14 rfl 0 dX10_weakest_13 rfl ?_
  refine r_ldc2 17 rfl 2 dX10_weakest_14 (cn_X10_115 rfl) ?_
  refine q_S 20 0 0 rfl [.long ((nI p).toInt64), .long 0, .long 2] rfl dX10_weakest_17 cl_X10_weakest__X10_in (lk_X10_64 rfl) st_X10_in (Nat.le_of_ble_eq_true rfl) (fun _ _ => Nat.le_of_ble_eq_true rfl) rfl rfl (Nat.le_of_ble_eq_true rfl) (Nat.le_of_ble_eq_true rfl) ?_
  refine c_in_t (show (0 : Int) ≤ (nI p).toInt64.toInt by rw [Int32.toInt_toInt64, nI_toInt (by omega)]; omega) (show (nI p).toInt64.toInt ≤ (2 : Int) by rw [Int32.toInt_toInt64, nI_toInt (by omega)]; omega) (k_i ?_)
  refine r_if_eq 23 43 rfl dX10_weakest_20 rfl (fun q__ => absurd q__ (by decide)) (fun _ => ?_)
  refine r_iload_n 24 rfl 3 dX10_weakest_23 rfl rfl ?_
  refine r_i2l 25 rfl dX10_weakest_24 ?_
  refine r_lconst 26 rfl 0 dX10_weakest_25 rfl ?_
  refine r_lconst 27 rfl 1 dX10_weakest_26 rfl ?_
  refine q_S 30 0 0 rfl [.long ((nI w).toInt64), .long 0, .long 1] rfl dX10_weakest_27 cl_X10_weakest__X10_in (lk_X10_64 rfl) st_X10_in (Nat.le_of_ble_eq_true rfl) (fun _ _ => Nat.le_of_ble_eq_true rfl) rfl rfl (Nat.le_of_ble_eq_true rfl) (Nat.le_of_ble_eq_true rfl) ?_
  refine c_in_t (show (0 : Int) ≤ (nI w).toInt64.toInt by rw [Int32.toInt_toInt64, nI_toInt (by omega)]; omega) (show (nI w).toInt64.toInt ≤ (1 : Int) by rw [Int32.toInt_toInt64, nI_toInt (by omega)]; omega) (k_i ?_)
  refine r_if_eq 33 43 rfl dX10_weakest_30 rfl (fun q__ => absurd q__ (by decide)) (fun _ => ?_)
  refine r_aload_n 34 rfl 0 dX10_weakest_33 rfl rfl ?_
  refine r_iload_n 35 rfl 1 dX10_weakest_34 rfl rfl ?_
  refine r_iload_n 36 rfl 2 dX10_weakest_35 rfl rfl ?_
  refine r_iload_n 37 rfl 3 dX10_weakest_36 rfl rfl ?_
  refine q_V 40 0 0 rfl [.int (nI c), .int (nI p), .int (nI w)] rfl dX10_weakest_37 cl_X10_weakest__X10_weakestOf (lk_X10_180 rfl) im_X10_weakestOf (ci := 10) rfl sl_X10__X10_weakestOf rfl (Nat.le_of_ble_eq_true rfl) (fun _ _ => Nat.le_of_ble_eq_true rfl) rfl rfl (Nat.le_of_ble_eq_true rfl) (Nat.le_of_ble_eq_true rfl) ?_
  refine c_weakestOf_t hC hn hc hf1 hp hw he (fun m' h42 hag => (k_i ?_))
  refine r_goto 45 dX10_weakest_40 rfl ?_
  refine r_ireturn rfl dX10_weakest_45 (Nat.le_of_ble_eq_true rfl) (Nat.le_of_ble_eq_true rfl) ?_
  exact k m' h42 hag

set_option maxHeartbeats 4000000 in
set_option maxRecDepth 20000 in
theorem P_weakest {i : Nat} {z : am_Z} {m : Nat → Nat → Int32} {n : Nat} {D K : Nat → Nat → Nat} (hI : IV i z m n D K) (hi : i + 5 ≤ 2560) (x : Int32) (y : Int32) (u : Int32) : AW mX9_weakest (PR (i + 5) mX10_weakest [.ref 37, .int x, .int y, .int u]) 0 (am_ent (am_l mX9_weakest) [.ref 1, .int x, .int y, .int u]) [] (wd z m) n 0 0 := by
  obtain ⟨h9, h10, hnz, hpg, hop, hnw, hct, him⟩ := id hI
  obtain ⟨hg, hfd, hf3, hf0, hns, hn6, hsd, hsb, hwi, hw4, hfr, hr1, hhr, hh⟩ := id h9
  by_cases hx : D 7 0 = 0 ∨ x.toInt < 0 ∨ 8 ≤ x.toInt
  · exact c9_weakest_n h9 hx (PR_i (fun Q2 k => c10_weakest_n h10 hx (k _ _ _ _ _ (IV_mono hI (by omega) hi))))
  · have hf1 : 1 ≤ D 7 0 := by omega
    obtain ⟨c, hc, rfl⟩ := (i_cases x 8 (by decide)).resolve_left (by omega)
    rcases i_cases y 3 (by decide) with hy | ⟨p, hp, rfl⟩
    · exact c9_weakest_o1 h9 hc hf1 hy (PR_i (fun Q2 k => c10_weakest_o1 h10 hc hf1 hy (k _ _ _ _ _ (IV_mono hI (by omega) hi))))
    · rcases i_cases u 2 (by decide) with hu | ⟨w, hw, rfl⟩
      · exact c9_weakest_o2 h9 hc hf1 hp hu (PR_i (fun Q2 k => c10_weakest_o2 h10 hc hf1 hp hu (k _ _ _ _ _ (IV_mono hI (by omega) hi))))
      · by_cases he : WH D c = nI p
        · refine c9_weakest_e h9 hc hf1 hp (by omega) he (fun m1 hag => PR_i (fun Q2 k => ?_))
          have hI1 := IV_ag hI (ag_w hag (by decide))
          exact c10_weakest_e hI1.2.1 hc hf1 hp (by omega) he (fun m2 hag2 => k _ _ _ _ _ (IV_mono (IV_ag hI1 (ag_w hag2 (by decide))) (by omega) hi))
        · refine c9_weakest_t h9 hc hf1 hp (by omega) he (fun m1 hag => PR_i (fun Q2 k => ?_))
          have hI1 := IV_ag hI (ag_w hag (by decide))
          exact c10_weakest_t hI1.2.1 hn6 hc hf1 hp (by omega) he (fun m2 h42 hag2 => k _ _ _ _ _ (IV_mono (IV_ag2 hI1 (ag_w hag2 (by decide)) (fun j _ => by rw [hag2 37 (by decide)]) h42) (by omega) hi))
