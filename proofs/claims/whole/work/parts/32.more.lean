set_option maxHeartbeats 4000000 in
set_option maxRecDepth 20000 in
theorem c_som_0 {Q : am_P} {z : am_Z} {m : Nat → Nat → Int32} {n : Nat} {D : Nat → Nat → Nat} (hC : C9 z m D){ce sg : Nat} (hce : ce < 8) (hsg : sg ≤ 9) (hf1 : 1 ≤ D 7 0) (hfz : D 7 4 = 0) (k : ∀ m', (∀ j, j < 8 → m' 33 j = nI (LF D ce sg j)) → ag [33] m m' → Q none (wd z m') n) : AW mX9_spreadOneMore Q 0 (am_ent (am_l mX9_spreadOneMore) [.ref 1, .int (nI ce), .int (nI sg)]) [] (wd z m) n 0 0 := by
  show AW _ _ 0 [some (.ref 1), some (.int (nI ce)), some (.int (nI sg))] [] _ _ 0 0
  obtain ⟨hg, hfd, hf3, hf0, hns, hn6, hsd, hsb, hwi, hw4, hfr, hr1, hhr, hh⟩ := id hC
  refine r_aload_n 1 rfl 0 dX9_spreadOneMore_0 rfl rfl ?_
  refine r_getf (v := .ref 4) (k := 1) 4 rfl dX9_spreadOneMore_1 (gf_X9_19_9 rfl) rfl rfl ?_
  refine r_iload_n 5 rfl 1 dX9_spreadOneMore_4 rfl rfl ?_
  refine r_aload_n 6 rfl 0 dX9_spreadOneMore_5 rfl rfl ?_
  refine r_getf (v := .ref 7) (k := 3) 9 rfl dX9_spreadOneMore_6 (gf_X9_32_9 rfl) rfl rfl ?_
  refine r_getf (v := .int ((m 7) 4)) (k := 4) 12 rfl dX9_spreadOneMore_9 (gf_X9_174_5 rfl) rfl rfl ?_
  rw [show (m 7) 4 = nI (D 7 4) from hfr]
  refine r_if_eq 15 19 rfl dX9_spreadOneMore_12 rfl (fun _ => ?_) (fun q__ => absurd ((nI_eq (a := (D 7 4)) (b := 0) (by omega) (by omega)).mpr (by omega)) q__)
  refine r_iload_n 20 rfl 2 dX9_spreadOneMore_19 rfl rfl ?_
  refine r_iconst 21 rfl 0 dX9_spreadOneMore_20 rfl ?_
  refine r_aload_n 22 rfl 0 dX9_spreadOneMore_21 rfl rfl ?_
  refine r_getf (v := .ref 7) (k := 3) 25 rfl dX9_spreadOneMore_22 (gf_X9_32_9 rfl) rfl rfl ?_
  refine r_getf (v := .int ((m 7) 3)) (k := 3) 28 rfl dX9_spreadOneMore_25 (gf_X9_153_5 rfl) rfl rfl ?_
  rw [show (m 7) 3 = nI (D 7 2) from hwi]
  refine r_iconst 29 rfl 0 dX9_spreadOneMore_28 rfl ?_
  refine r_aload_n 30 rfl 0 dX9_spreadOneMore_29 rfl rfl ?_
  refine r_getf (v := .ref 33) (k := 7) 33 rfl dX9_spreadOneMore_30 (gf_X9_49_9 rfl) rfl rfl ?_
  refine q_V 36 0 0 rfl [.int (nI ce), .int (nI sg), .int 0, .int (nI (D 7 2)), .int 0, .ref 33] rfl dX9_spreadOneMore_33 cl_X9_spreadOneMore__X7_spread (lk_X9_156 rfl) im_X7_spread (ci := 7) rfl sl_X7__X7_spread rfl (Nat.le_of_ble_eq_true rfl) (fun _ _ => Nat.le_of_ble_eq_true rfl) rfl rfl (Nat.le_of_ble_eq_true rfl) (Nat.le_of_ble_eq_true rfl) ?_
  refine c_spread_33 (wl := 0) (D 0) hg hfd hf1 hf3 (F := sg) (ea := 0) hce (by omega) (by decide) hw4 (fun m' h33 hag => (k_v ?_))
  rw [sp_b0] at h33
  refine r_return rfl dX9_spreadOneMore_36 (Nat.le_of_ble_eq_true rfl) (Nat.le_of_ble_eq_true rfl) ?_
  exact k m' (fun j hj => by unfold LF; rw [if_pos hfz]; exact h33 j hj) hag

set_option maxHeartbeats 4000000 in
set_option maxRecDepth 20000 in
theorem c_som_1 {Q : am_P} {z : am_Z} {m : Nat → Nat → Int32} {n : Nat} {D : Nat → Nat → Nat} (hC : C9 z m D){ce sg : Nat} (hce : ce < 8) (hsg : sg ≤ 9) (hf1 : 1 ≤ D 7 0) (hfz : ¬ D 7 4 = 0) (k : ∀ m', (∀ j, j < 8 → m' 33 j = nI (LF D ce sg j)) → ag [33] m m' → Q none (wd z m') n) : AW mX9_spreadOneMore Q 0 (am_ent (am_l mX9_spreadOneMore) [.ref 1, .int (nI ce), .int (nI sg)]) [] (wd z m) n 0 0 := by
  show AW _ _ 0 [some (.ref 1), some (.int (nI ce)), some (.int (nI sg))] [] _ _ 0 0
  obtain ⟨hg, hfd, hf3, hf0, hns, hn6, hsd, hsb, hwi, hw4, hfr, hr1, hhr, hh⟩ := id hC
  refine r_aload_n 1 rfl 0 dX9_spreadOneMore_0 rfl rfl ?_
  refine r_getf (v := .ref 4) (k := 1) 4 rfl dX9_spreadOneMore_1 (gf_X9_19_9 rfl) rfl rfl ?_
  refine r_iload_n 5 rfl 1 dX9_spreadOneMore_4 rfl rfl ?_
  refine r_aload_n 6 rfl 0 dX9_spreadOneMore_5 rfl rfl ?_
  refine r_getf (v := .ref 7) (k := 3) 9 rfl dX9_spreadOneMore_6 (gf_X9_32_9 rfl) rfl rfl ?_
  refine r_getf (v := .int ((m 7) 4)) (k := 4) 12 rfl dX9_spreadOneMore_9 (gf_X9_174_5 rfl) rfl rfl ?_
  rw [show (m 7) 4 = nI (D 7 4) from hfr]
  refine r_if_eq 15 19 rfl dX9_spreadOneMore_12 rfl (fun q__ => absurd q__ (fun q__ => absurd ((nI_eq (a := (D 7 4)) (b := 0) (by omega) (by omega)).mp q__) (by omega))) (fun _ => ?_)
  refine r_iconst 16 rfl 0 dX9_spreadOneMore_15 rfl ?_
  refine r_goto 20 dX9_spreadOneMore_16 rfl ?_
  refine r_iconst 21 rfl 0 dX9_spreadOneMore_20 rfl ?_
  refine r_aload_n 22 rfl 0 dX9_spreadOneMore_21 rfl rfl ?_
  refine r_getf (v := .ref 7) (k := 3) 25 rfl dX9_spreadOneMore_22 (gf_X9_32_9 rfl) rfl rfl ?_
  refine r_getf (v := .int ((m 7) 3)) (k := 3) 28 rfl dX9_spreadOneMore_25 (gf_X9_153_5 rfl) rfl rfl ?_
  rw [show (m 7) 3 = nI (D 7 2) from hwi]
  refine r_iconst 29 rfl 0 dX9_spreadOneMore_28 rfl ?_
  refine r_aload_n 30 rfl 0 dX9_spreadOneMore_29 rfl rfl ?_
  refine r_getf (v := .ref 33) (k := 7) 33 rfl dX9_spreadOneMore_30 (gf_X9_49_9 rfl) rfl rfl ?_
  refine q_V 36 0 0 rfl [.int (nI ce), .int 0, .int 0, .int (nI (D 7 2)), .int 0, .ref 33] rfl dX9_spreadOneMore_33 cl_X9_spreadOneMore__X7_spread (lk_X9_156 rfl) im_X7_spread (ci := 7) rfl sl_X7__X7_spread rfl (Nat.le_of_ble_eq_true rfl) (fun _ _ => Nat.le_of_ble_eq_true rfl) rfl rfl (Nat.le_of_ble_eq_true rfl) (Nat.le_of_ble_eq_true rfl) ?_
  refine c_spread_33 (wl := 0) (D 0) hg hfd hf1 hf3 (F := 0) (ea := 0) hce (by omega) (by decide) hw4 (fun m' h33 hag => (k_v ?_))
  rw [sp_b0] at h33
  refine r_return rfl dX9_spreadOneMore_36 (Nat.le_of_ble_eq_true rfl) (Nat.le_of_ble_eq_true rfl) ?_
  exact k m' (fun j hj => by unfold LF; rw [if_neg hfz]; rw [sp_A_0] at h33; exact h33 j hj) hag

theorem c_som {Q : am_P} {z : am_Z} {m : Nat → Nat → Int32} {n : Nat} {D : Nat → Nat → Nat} (hC : C9 z m D) {ce sg : Nat} (hce : ce < 8) (hsg : sg ≤ 9) (hf1 : 1 ≤ D 7 0) (k : ∀ m', (∀ j, j < 8 → m' 33 j = nI (LF D ce sg j)) → ag [33] m m' → Q none (wd z m') n) : AW mX9_spreadOneMore Q 0 (am_ent (am_l mX9_spreadOneMore) [.ref 1, .int (nI ce), .int (nI sg)]) [] (wd z m) n 0 0 := by
  by_cases h : D 7 4 = 0
  · exact c_som_0 hC hce hsg hf1 h k
  · exact c_som_1 hC hce hsg hf1 h k

set_option maxHeartbeats 4000000 in
set_option maxRecDepth 20000 in
theorem c_ww_1 {Q : am_P} {z : am_Z} {m : Nat → Nat → Int32} {n : Nat} {D : Nat → Nat → Nat} (hC : C9 z m D) (hA : AIR m D) {ce sg : Nat} (hce : ce < 8) (hsg : sg ≤ 9) (hf1 : 1 ≤ D 7 0){c : Nat} (hc : c < 8) (hw : MO D c < LF D ce sg c) (k : ∀ m', ag [33] m m' → Q (some (.int 1)) (wd z m') n) : AW mX9_wouldWin Q 0 (am_ent (am_l mX9_wouldWin) [.ref 1, .int (nI c), .int (nI ce), .int (nI sg)]) [] (wd z m) n 0 0 := by
  show AW _ _ 0 [some (.ref 1), some (.int (nI c)), some (.int (nI ce)), some (.int (nI sg))] [] _ _ 0 0
  obtain ⟨hg, hfd, hf3, hf0, hns, hn6, hsd, hsb, hwi, hw4, hfr, hr1, hhr, hh⟩ := id hC
  have hl9 := LF_le (D := D) (ce := ce) hsg c
  have hm9 : MO D c ≤ 9 := st_mo_le (D 7 1) (fun s hs j => so_am_le (by obtain ⟨_, _, _, _, _, _, _, _, h⟩ := hsd s hs; exact h) j) c
  refine r_aload_n 1 rfl 0 dX9_wouldWin_0 rfl rfl ?_
  refine r_iload_n 2 rfl 2 dX9_wouldWin_1 rfl rfl ?_
  refine r_iload_n 3 rfl 3 dX9_wouldWin_2 rfl rfl ?_
  refine q_V 6 0 0 rfl [.int (nI ce), .int (nI sg)] rfl dX9_wouldWin_3 cl_X9_wouldWin__X9_spreadOneMore (lk_X9_322 rfl) im_X9_spreadOneMore (ci := 9) rfl sl_X9__X9_spreadOneMore rfl (Nat.le_of_ble_eq_true rfl) (fun _ _ => Nat.le_of_ble_eq_true rfl) rfl rfl (Nat.le_of_ble_eq_true rfl) (Nat.le_of_ble_eq_true rfl) ?_
  refine c_som hC hce hsg hf1 (fun m' h33 hag => (k_v ?_))
  have e29 : m' 29 c = nI (MO D c) := by rw [hag 29 (by decide)]; exact (hA c hc).1
  have e33 := h33 c hc
  refine r_aload_n 7 rfl 0 dX9_wouldWin_6 rfl rfl ?_
  refine r_getf (v := .ref 33) (k := 7) 10 rfl dX9_wouldWin_7 (gf_X9_49_9 rfl) rfl rfl ?_
  refine r_iload_n 11 rfl 1 dX9_wouldWin_10 rfl rfl ?_
  refine r_iald (f := m' 33) 12 rfl c dX9_wouldWin_11 rfl rfl (by omega) (by decide) ?_
  rw [show (m' 33) c = nI (LF D ce sg c) from e33]
  refine r_aload_n 13 rfl 0 dX9_wouldWin_12 rfl rfl ?_
  refine r_getf (v := .ref 28) (k := 6) 16 rfl dX9_wouldWin_13 (gf_X9_45_9 rfl) rfl rfl ?_
  refine r_getf (v := .ref 29) (k := 0) 19 rfl dX9_wouldWin_16 (gf_X9_298_0 rfl) rfl rfl ?_
  refine r_iload_n 20 rfl 1 dX9_wouldWin_19 rfl rfl ?_
  refine r_iald (f := m' 29) 21 rfl c dX9_wouldWin_20 rfl rfl (by omega) (by decide) ?_
  rw [show (m' 29) c = nI (MO D c) from e29]
  refine r_icmp_le 24 28 rfl dX9_wouldWin_21 rfl (fun q__ => absurd q__ (fun q__ => absurd ((nI_leI (a := (LF D ce sg c)) (b := (MO D c)) (by omega) (by omega)).mp q__) (by omega))) (fun _ => ?_)
  refine r_iconst 25 rfl 1 dX9_wouldWin_24 rfl ?_
  refine r_goto 29 dX9_wouldWin_25 rfl ?_
  refine r_zreturn rfl rfl dX9_wouldWin_29 (Nat.le_of_ble_eq_true rfl) (Nat.le_of_ble_eq_true rfl) ?_
  exact k m' hag

set_option maxHeartbeats 4000000 in
set_option maxRecDepth 20000 in
theorem c_ww_0 {Q : am_P} {z : am_Z} {m : Nat → Nat → Int32} {n : Nat} {D : Nat → Nat → Nat} (hC : C9 z m D) (hA : AIR m D) {ce sg : Nat} (hce : ce < 8) (hsg : sg ≤ 9) (hf1 : 1 ≤ D 7 0){c : Nat} (hc : c < 8) (hw : ¬ MO D c < LF D ce sg c) (k : ∀ m', ag [33] m m' → Q (some (.int 0)) (wd z m') n) : AW mX9_wouldWin Q 0 (am_ent (am_l mX9_wouldWin) [.ref 1, .int (nI c), .int (nI ce), .int (nI sg)]) [] (wd z m) n 0 0 := by
  show AW _ _ 0 [some (.ref 1), some (.int (nI c)), some (.int (nI ce)), some (.int (nI sg))] [] _ _ 0 0
  obtain ⟨hg, hfd, hf3, hf0, hns, hn6, hsd, hsb, hwi, hw4, hfr, hr1, hhr, hh⟩ := id hC
  have hl9 := LF_le (D := D) (ce := ce) hsg c
  have hm9 : MO D c ≤ 9 := st_mo_le (D 7 1) (fun s hs j => so_am_le (by obtain ⟨_, _, _, _, _, _, _, _, h⟩ := hsd s hs; exact h) j) c
  refine r_aload_n 1 rfl 0 dX9_wouldWin_0 rfl rfl ?_
  refine r_iload_n 2 rfl 2 dX9_wouldWin_1 rfl rfl ?_
  refine r_iload_n 3 rfl 3 dX9_wouldWin_2 rfl rfl ?_
  refine q_V 6 0 0 rfl [.int (nI ce), .int (nI sg)] rfl dX9_wouldWin_3 cl_X9_wouldWin__X9_spreadOneMore (lk_X9_322 rfl) im_X9_spreadOneMore (ci := 9) rfl sl_X9__X9_spreadOneMore rfl (Nat.le_of_ble_eq_true rfl) (fun _ _ => Nat.le_of_ble_eq_true rfl) rfl rfl (Nat.le_of_ble_eq_true rfl) (Nat.le_of_ble_eq_true rfl) ?_
  refine c_som hC hce hsg hf1 (fun m' h33 hag => (k_v ?_))
  have e29 : m' 29 c = nI (MO D c) := by rw [hag 29 (by decide)]; exact (hA c hc).1
  have e33 := h33 c hc
  refine r_aload_n 7 rfl 0 dX9_wouldWin_6 rfl rfl ?_
  refine r_getf (v := .ref 33) (k := 7) 10 rfl dX9_wouldWin_7 (gf_X9_49_9 rfl) rfl rfl ?_
  refine r_iload_n 11 rfl 1 dX9_wouldWin_10 rfl rfl ?_
  refine r_iald (f := m' 33) 12 rfl c dX9_wouldWin_11 rfl rfl (by omega) (by decide) ?_
  rw [show (m' 33) c = nI (LF D ce sg c) from e33]
  refine r_aload_n 13 rfl 0 dX9_wouldWin_12 rfl rfl ?_
  refine r_getf (v := .ref 28) (k := 6) 16 rfl dX9_wouldWin_13 (gf_X9_45_9 rfl) rfl rfl ?_
  refine r_getf (v := .ref 29) (k := 0) 19 rfl dX9_wouldWin_16 (gf_X9_298_0 rfl) rfl rfl ?_
  refine r_iload_n 20 rfl 1 dX9_wouldWin_19 rfl rfl ?_
  refine r_iald (f := m' 29) 21 rfl c dX9_wouldWin_20 rfl rfl (by omega) (by decide) ?_
  rw [show (m' 29) c = nI (MO D c) from e29]
  refine r_icmp_le 24 28 rfl dX9_wouldWin_21 rfl (fun _ => ?_) (fun q__ => absurd ((nI_leI (a := (LF D ce sg c)) (b := (MO D c)) (by omega) (by omega)).mpr (by omega)) q__)
  refine r_iconst 29 rfl 0 dX9_wouldWin_28 rfl ?_
  refine r_zreturn rfl rfl dX9_wouldWin_29 (Nat.le_of_ble_eq_true rfl) (Nat.le_of_ble_eq_true rfl) ?_
  exact k m' hag

set_option maxHeartbeats 4000000 in
set_option maxRecDepth 20000 in
theorem c_lay {Q : am_P} {z : am_Z} {m : Nat → Nat → Int32} {n : Nat} {s : Nat} (hs : s < 7) {a b c d : Int32} (k : ∀ m', m' 42 (6 * s) = a → m' 42 (6 * s + 1) = b → m' 42 (6 * s + 2) = c → m' 42 (6 * s + 3) = d → m' 42 (6 * s + 4) = 1 → m' 42 (6 * s + 5) = 0 → (∀ j, j < 6 * s ∨ 6 * s + 5 < j → m' 42 j = m 42 j) → ag [42] m m' → Q none (wd z m') n) : AW mX10_lay Q 0 (am_ent (am_l mX10_lay) [.ref 37, .int (nI s), .int a, .int b, .int c, .int d]) [] (wd z m) n 0 0 := by
  show AW _ _ 0 [some (.ref 37), some (.int (nI s)), some (.int a), some (.int b), some (.int c), some (.int d)] [] _ _ 0 0
  refine r_aload_n 1 rfl 0 dX10_lay_0 rfl rfl ?_
  refine r_getf (v := .ref 42) (k := 11) 4 rfl dX10_lay_1 (gf_X10_22_10 rfl) rfl rfl ?_
  refine r_bipush 6 rfl 6 dX10_lay_4 (by decide) ?_
  refine r_iload_n 7 rfl 1 dX10_lay_6 rfl rfl ?_
  refine r_imul 8 rfl dX10_lay_7 ?_
  rw [show 6 * (nI s) = nI (6 * s) from pk_mul 6 s]
  refine r_iload_n 9 rfl 2 dX10_lay_8 rfl rfl ?_
  refine w_iast 10 rfl (6 * s) (va_up m 42 (upd (m 42) (6 * s) a)) dX10_lay_9 (by decide) (by decide) (fun _ => rfl) rfl (by omega) (by decide) rfl ?_
  refine r_aload_n 11 rfl 0 dX10_lay_10 rfl rfl ?_
  refine r_getf (v := .ref 42) (k := 11) 14 rfl dX10_lay_11 (gf_X10_22_10 rfl) rfl rfl ?_
  refine r_bipush 16 rfl 6 dX10_lay_14 (by decide) ?_
  refine r_iload_n 17 rfl 1 dX10_lay_16 rfl rfl ?_
  refine r_imul 18 rfl dX10_lay_17 ?_
  rw [show 6 * (nI s) = nI (6 * s) from pk_mul 6 s]
  refine r_iconst 19 rfl 1 dX10_lay_18 rfl ?_
  refine r_iadd 20 rfl dX10_lay_19 ?_
  rw [show (nI (6 * s)) + 1 = nI ((6 * s) + 1) from nI_add (6 * s) 1]
  refine r_iload_n 21 rfl 3 dX10_lay_20 rfl rfl ?_
  refine w_iast 22 rfl ((6 * s) + 1) (va_up (va_up m 42 (upd (m 42) (6 * s) a)) 42 (upd (upd (m 42) (6 * s) a) ((6 * s) + 1) b)) dX10_lay_21 (by decide) (by decide) (fun _ => rfl) rfl (by omega) (by decide) rfl ?_
  refine r_aload_n 23 rfl 0 dX10_lay_22 rfl rfl ?_
  refine r_getf (v := .ref 42) (k := 11) 26 rfl dX10_lay_23 (gf_X10_22_10 rfl) rfl rfl ?_
  refine r_bipush 28 rfl 6 dX10_lay_26 (by decide) ?_
  refine r_iload_n 29 rfl 1 dX10_lay_28 rfl rfl ?_
  refine r_imul 30 rfl dX10_lay_29 ?_
  rw [show 6 * (nI s) = nI (6 * s) from pk_mul 6 s]
  refine r_iconst 31 rfl 2 dX10_lay_30 rfl ?_
  refine r_iadd 32 rfl dX10_lay_31 ?_
  rw [show (nI (6 * s)) + 2 = nI ((6 * s) + 2) from nI_add (6 * s) 2]
  refine r_iload 34 rfl dX10_lay_32 rfl ?_
  refine w_iast 35 rfl ((6 * s) + 2) (va_up (va_up (va_up m 42 (upd (m 42) (6 * s) a)) 42 (upd (upd (m 42) (6 * s) a) ((6 * s) + 1) b)) 42 (upd (upd (upd (m 42) (6 * s) a) ((6 * s) + 1) b) ((6 * s) + 2) c)) dX10_lay_34 (by decide) (by decide) (fun _ => rfl) rfl (by omega) (by decide) rfl ?_
  refine r_aload_n 36 rfl 0 dX10_lay_35 rfl rfl ?_
  refine r_getf (v := .ref 42) (k := 11) 39 rfl dX10_lay_36 (gf_X10_22_10 rfl) rfl rfl ?_
  refine r_bipush 41 rfl 6 dX10_lay_39 (by decide) ?_
  refine r_iload_n 42 rfl 1 dX10_lay_41 rfl rfl ?_
  refine r_imul 43 rfl dX10_lay_42 ?_
  rw [show 6 * (nI s) = nI (6 * s) from pk_mul 6 s]
  refine r_iconst 44 rfl 3 dX10_lay_43 rfl ?_
  refine r_iadd 45 rfl dX10_lay_44 ?_
  rw [show (nI (6 * s)) + 3 = nI ((6 * s) + 3) from nI_add (6 * s) 3]
  refine r_iload 47 rfl dX10_lay_45 rfl ?_
  refine w_iast 48 rfl ((6 * s) + 3) (va_up (va_up (va_up (va_up m 42 (upd (m 42) (6 * s) a)) 42 (upd (upd (m 42) (6 * s) a) ((6 * s) + 1) b)) 42 (upd (upd (upd (m 42) (6 * s) a) ((6 * s) + 1) b) ((6 * s) + 2) c)) 42 (upd (upd (upd (upd (m 42) (6 * s) a) ((6 * s) + 1) b) ((6 * s) + 2) c) ((6 * s) + 3) d)) dX10_lay_47 (by decide) (by decide) (fun _ => rfl) rfl (by omega) (by decide) rfl ?_
  refine r_aload_n 49 rfl 0 dX10_lay_48 rfl rfl ?_
  refine r_getf (v := .ref 42) (k := 11) 52 rfl dX10_lay_49 (gf_X10_22_10 rfl) rfl rfl ?_
  refine r_bipush 54 rfl 6 dX10_lay_52 (by decide) ?_
  refine r_iload_n 55 rfl 1 dX10_lay_54 rfl rfl ?_
  refine r_imul 56 rfl dX10_lay_55 ?_
  rw [show 6 * (nI s) = nI (6 * s) from pk_mul 6 s]
  refine r_iconst 57 rfl 4 dX10_lay_56 rfl ?_
  refine r_iadd 58 rfl dX10_lay_57 ?_
  rw [show (nI (6 * s)) + 4 = nI ((6 * s) + 4) from nI_add (6 * s) 4]
  refine r_iconst 59 rfl 1 dX10_lay_58 rfl ?_
  refine w_iast 60 rfl ((6 * s) + 4) (va_up (va_up (va_up (va_up (va_up m 42 (upd (m 42) (6 * s) a)) 42 (upd (upd (m 42) (6 * s) a) ((6 * s) + 1) b)) 42 (upd (upd (upd (m 42) (6 * s) a) ((6 * s) + 1) b) ((6 * s) + 2) c)) 42 (upd (upd (upd (upd (m 42) (6 * s) a) ((6 * s) + 1) b) ((6 * s) + 2) c) ((6 * s) + 3) d)) 42 (upd (upd (upd (upd (upd (m 42) (6 * s) a) ((6 * s) + 1) b) ((6 * s) + 2) c) ((6 * s) + 3) d) ((6 * s) + 4) 1)) dX10_lay_59 (by decide) (by decide) (fun _ => rfl) rfl (by omega) (by decide) rfl ?_
  refine r_aload_n 61 rfl 0 dX10_lay_60 rfl rfl ?_
  refine r_getf (v := .ref 42) (k := 11) 64 rfl dX10_lay_61 (gf_X10_22_10 rfl) rfl rfl ?_
  refine r_bipush 66 rfl 6 dX10_lay_64 (by decide) ?_
  refine r_iload_n 67 rfl 1 dX10_lay_66 rfl rfl ?_
  refine r_imul 68 rfl dX10_lay_67 ?_
  rw [show 6 * (nI s) = nI (6 * s) from pk_mul 6 s]
  refine r_iconst 69 rfl 5 dX10_lay_68 rfl ?_
  refine r_iadd 70 rfl dX10_lay_69 ?_
  rw [show (nI (6 * s)) + 5 = nI ((6 * s) + 5) from nI_add (6 * s) 5]
  refine r_iconst 71 rfl 0 dX10_lay_70 rfl ?_
  refine w_iast 72 rfl ((6 * s) + 5) (va_up (va_up (va_up (va_up (va_up (va_up m 42 (upd (m 42) (6 * s) a)) 42 (upd (upd (m 42) (6 * s) a) ((6 * s) + 1) b)) 42 (upd (upd (upd (m 42) (6 * s) a) ((6 * s) + 1) b) ((6 * s) + 2) c)) 42 (upd (upd (upd (upd (m 42) (6 * s) a) ((6 * s) + 1) b) ((6 * s) + 2) c) ((6 * s) + 3) d)) 42 (upd (upd (upd (upd (upd (m 42) (6 * s) a) ((6 * s) + 1) b) ((6 * s) + 2) c) ((6 * s) + 3) d) ((6 * s) + 4) 1)) 42 (upd (upd (upd (upd (upd (upd (m 42) (6 * s) a) ((6 * s) + 1) b) ((6 * s) + 2) c) ((6 * s) + 3) d) ((6 * s) + 4) 1) ((6 * s) + 5) 0)) dX10_lay_71 (by decide) (by decide) (fun _ => rfl) rfl (by omega) (by decide) rfl ?_
  refine r_return rfl dX10_lay_72 (Nat.le_of_ble_eq_true rfl) (Nat.le_of_ble_eq_true rfl) ?_
  refine k _ ?_ ?_ ?_ ?_ ?_ ?_ (fun j hj => ?_) (ag_up (ag_up (ag_up (ag_up (ag_up (ag_up (ag_r _ _) (by decide)) (by decide)) (by decide)) (by decide)) (by decide)) (by decide))
  · rw [va_up_self]; unfold upd; simp
  · rw [va_up_self]; unfold upd; simp
  · rw [va_up_self]; unfold upd; simp
  · rw [va_up_self]; unfold upd; simp
  · rw [va_up_self]; unfold upd; simp
  · rw [va_up_self]; unfold upd; simp
  · rw [va_up_self]; unfold upd; rw [if_neg (by omega), if_neg (by omega), if_neg (by omega), if_neg (by omega), if_neg (by omega), if_neg (by omega)]

theorem C10_XT {m : Nat → Nat → Int32} {m2 : Nat → Nat → Int32} {D : Nat → Nat → Nat} (hC : C10 m D) (hn : D 7 1 ≤ 6) (hf1 : 1 ≤ D 7 0) {pa ce sg : Nat} (hpa : pa < 3) (hce : ce < 8) (hsg : sg ≤ 9) (h37 : ∀ j, j ≠ 10 → m2 37 j = m 37 j) (h10 : m2 37 10 = nI (D 7 1 + 1)) (h39 : m2 39 = m 39) (g0 : m2 42 (6 * D 7 1) = 0) (g1 : m2 42 (6 * D 7 1 + 1) = nI pa) (g2 : m2 42 (6 * D 7 1 + 2) = nI ce) (g3 : m2 42 (6 * D 7 1 + 3) = nI sg) (g4 : m2 42 (6 * D 7 1 + 4) = 1) (g5 : m2 42 (6 * D 7 1 + 5) = 0) (g : ∀ j, j < 6 * D 7 1 → m2 42 j = m 42 j) : C10 m2 (XT D pa ce sg) := by
  obtain ⟨hg, hfd, hf3, hf0, hns, hn7, hmr, hwi, hw4, hfr, hr1, hhr, hh⟩ := id hC
  refine ⟨fun j hj => ?_, ?_, hf3, fun _ => hf1, h10, (show D 7 1 + 1 ≤ 7 by omega), fun s hs => ?_, ?_, hw4, ?_, hr1, ?_, hh⟩
  · rw [h39]; exact hg j hj
  · rw [h37 2 (by decide)]; exact hfd
  · have hs : s < D 7 1 + 1 := hs
    by_cases h : s = D 7 1
    · subst h
      have e1 : XT D pa ce sg 1 (D 7 1) = 0 := va_up_self _ _ _
      have e2 : XT D pa ce sg 2 (D 7 1) = pa := va_up_self _ _ _
      have e3 : XT D pa ce sg 3 (D 7 1) = ce := va_up_self _ _ _
      have e4 : XT D pa ce sg 4 (D 7 1) = sg := va_up_self _ _ _
      have e5 : XT D pa ce sg 5 (D 7 1) = 1 := va_up_self _ _ _
      have e6 : XT D pa ce sg 6 (D 7 1) = 0 := va_up_self _ _ _
      rw [e1, e2, e3, e4, e5, e6]
      exact ⟨⟨g0, g1, g2, g3, g4, g5⟩, by decide, hpa, hce, hsg, by decide, by decide⟩
    · have hs' : s < D 7 1 := by omega
      rw [XT_ne (t := 1) (by decide) hs', XT_ne (t := 2) (by decide) hs', XT_ne (t := 3) (by decide) hs', XT_ne (t := 4) (by decide) hs', XT_ne (t := 5) (by decide) hs', XT_ne (t := 6) (by decide) hs']
      rw [g (6 * s) (by omega), g (6 * s + 1) (by omega), g (6 * s + 2) (by omega), g (6 * s + 3) (by omega), g (6 * s + 4) (by omega), g (6 * s + 5) (by omega)]
      exact hmr s hs'
  · rw [h37 3 (by decide)]; exact hwi
  · rw [h37 4 (by decide)]; exact hfr
  · rw [h37 5 (by decide)]; exact hhr

set_option maxHeartbeats 4000000 in
set_option maxRecDepth 20000 in
theorem c_whoseBy {Q : am_P} {z : am_Z} {m : Nat → Nat → Int32} {n : Nat} {D : Nat → Nat → Nat} (hC : C10 m D)(hn : D 7 1 ≤ 6) (hf1 : 1 ≤ D 7 0) {c pa ce sg : Nat} (hc : c < 8) (hpa : pa < 3) (hce : ce < 8) (hsg : sg ≤ 9) (k : ∀ m', (∀ j, j < 8 → m' 44 j = BY (XT D pa ce sg) j) → (∀ s, s < D 7 1 + 1 → m' 42 (6 * s + 1) = nI (XT D pa ce sg 2 s)) → (∀ j, j < 6 * D 7 1 → m' 42 j = m 42 j) → ag [42, 43, 44, 45] m m' → Q (some (.int (WX D pa ce sg c))) (wd z m') n) : AW mX10_whoseBy Q 0 (am_ent (am_l mX10_whoseBy) [.ref 37, .int (nI c), .int (nI pa), .int (nI ce), .int (nI sg)]) [] (wd z m) n 0 0 := by
  show AW _ _ 0 [some (.ref 37), some (.int (nI c)), some (.int (nI pa)), some (.int (nI ce)), some (.int (nI sg)), none] [] _ _ 0 0
  obtain ⟨hg, hfd, hf3, hf0, hns, hn7, hmr, hwi, hw4, hfr, hr1, hhr, hh⟩ := id hC
  refine r_aload_n 1 rfl 0 dX10_whoseBy_0 rfl rfl ?_
  refine r_aload_n 2 rfl 0 dX10_whoseBy_1 rfl rfl ?_
  refine r_getf (v := .int ((m 37) 10)) (k := 10) 5 rfl dX10_whoseBy_2 (gf_X10_95_10 rfl) rfl rfl ?_
  rw [show (m 37) 10 = nI (D 7 1) from hns]
  refine r_iconst 6 rfl 0 dX10_whoseBy_5 rfl ?_
  refine r_iload_n 7 rfl 2 dX10_whoseBy_6 rfl rfl ?_
  refine r_iload_n 8 rfl 3 dX10_whoseBy_7 rfl rfl ?_
  refine r_iload 10 rfl dX10_whoseBy_8 rfl ?_
  refine q_V 13 0 0 rfl [.int (nI (D 7 1)), .int 0, .int (nI pa), .int (nI ce), .int (nI sg)] rfl dX10_whoseBy_10 cl_X10_whoseBy__X10_lay (lk_X10_123 rfl) im_X10_lay (ci := 10) rfl sl_X10__X10_lay rfl (Nat.le_of_ble_eq_true rfl) (fun _ _ => Nat.le_of_ble_eq_true rfl) rfl rfl (Nat.le_of_ble_eq_true rfl) (Nat.le_of_ble_eq_true rfl) ?_
  refine c_lay (s := D 7 1) (by omega) (fun m1 g0 g1 g2 g3 g4 g5 gj hag => (k_v ?_))
  have e37 : m1 37 = m 37 := hag 37 (by decide)
  have f10 : m1 37 10 = nI (D 7 1) := by rw [e37]; exact hns
  refine r_aload_n 14 rfl 0 dX10_whoseBy_13 rfl rfl ?_
  refine r_dup 15 rfl dX10_whoseBy_14 rfl ?_
  refine r_getf (v := .int ((m1 37) 10)) (k := 10) 18 rfl dX10_whoseBy_15 (gf_X10_95_10 rfl) rfl rfl ?_
  rw [show (m1 37) 10 = nI (D 7 1) from f10]
  refine r_iconst 19 rfl 1 dX10_whoseBy_18 rfl ?_
  refine r_iadd 20 rfl dX10_whoseBy_19 ?_
  rw [show (nI (D 7 1)) + 1 = nI ((D 7 1) + 1) from nI_add (D 7 1) 1]
  refine w_putf 23 rfl (k := 10) (va_up m1 37 (upd (m1 37) 10 (nI ((D 7 1) + 1)))) dX10_whoseBy_20 (pf_X10_95_10 rfl) (by decide) (by decide) rfl (Nat.le_of_ble_eq_true rfl) rfl ⟨rfl, rfl⟩ rfl ?_
  refine r_aload_n 24 rfl 0 dX10_whoseBy_23 rfl rfl ?_
  have hX : C10 (va_up m1 37 (upd (m1 37) 10 (nI (D 7 1 + 1)))) (XT D pa ce sg) := C10_XT hC hn hf1 hpa hce hsg (fun j hj => by rw [va_up_self]; unfold upd; rw [if_neg hj, e37]) (by rw [va_up_self]; rfl) (by rw [va_up_ne _ _ (by decide)]; exact hag 39 (by decide)) g0 g1 g2 g3 g4 g5 (fun j hj => gj j (Or.inl hj))
  refine q_V 27 0 0 rfl [] rfl dX10_whoseBy_24 cl_X10_whoseBy__X10_layCells (lk_X10_149 rfl) im_X10_layCells (ci := 10) rfl sl_X10__X10_layCells rfl (Nat.le_of_ble_eq_true rfl) (fun _ _ => Nat.le_of_ble_eq_true rfl) rfl rfl (Nat.le_of_ble_eq_true rfl) (Nat.le_of_ble_eq_true rfl) ?_
  refine c_layC hX (fun m2 hM hag2 => (k_v ?_))
  have hX2 := C10_ag hX hag2 (by decide)
  have h37 : m2 37 = upd (m1 37) 10 (nI (D 7 1 + 1)) := (hag2 37 (by decide)).trans (va_up_self _ _ _)
  have f10' : m2 37 10 = nI (D 7 1 + 1) := hX2.2.2.2.2.1
  refine r_aload_n 28 rfl 0 dX10_whoseBy_27 rfl rfl ?_
  refine r_iload_n 29 rfl 1 dX10_whoseBy_28 rfl rfl ?_
  refine q_V 32 0 0 rfl [.int (nI c)] rfl dX10_whoseBy_29 cl_X10_whoseBy__X10_whose (lk_X10_152 rfl) im_X10_whose (ci := 10) rfl sl_X10__X10_whose rfl (Nat.le_of_ble_eq_true rfl) (fun _ _ => Nat.le_of_ble_eq_true rfl) rfl rfl (Nat.le_of_ble_eq_true rfl) (Nat.le_of_ble_eq_true rfl) ?_
  refine c_who hX2 hM hc (k_i ?_)
  rw [WH_XT]
  refine r_istore 34 rfl [some (.ref 37), some (.int (nI c)), some (.int (nI pa)), some (.int (nI ce)), some (.int (nI sg)), some (.int (WX D pa ce sg c))] dX10_whoseBy_32 (by decide) rfl ?_
  refine r_aload_n 35 rfl 0 dX10_whoseBy_34 rfl rfl ?_
  refine r_dup 36 rfl dX10_whoseBy_35 rfl ?_
  refine r_getf (v := .int ((m2 37) 10)) (k := 10) 39 rfl dX10_whoseBy_36 (gf_X10_95_10 rfl) rfl rfl ?_
  rw [show (m2 37) 10 = nI (D 7 1 + 1) from f10']
  refine r_iconst 40 rfl 1 dX10_whoseBy_39 rfl ?_
  refine r_isub 41 rfl dX10_whoseBy_40 ?_
  rw [show (nI (D 7 1 + 1)) - 1 = nI (D 7 1) from pk_sub (a := D 7 1 + 1) (b := 1) (by omega)]
  refine w_putf 44 rfl (k := 10) (va_up m2 37 (upd (m2 37) 10 (nI (D 7 1)))) dX10_whoseBy_41 (pf_X10_95_10 rfl) (by decide) (by decide) rfl (Nat.le_of_ble_eq_true rfl) rfl ⟨rfl, rfl⟩ rfl ?_
  refine r_iload 46 rfl dX10_whoseBy_44 rfl ?_
  refine r_ireturn rfl dX10_whoseBy_46 (Nat.le_of_ble_eq_true rfl) (Nat.le_of_ble_eq_true rfl) ?_
  have e42 : m2 42 = m1 42 := (hag2 42 (by decide)).trans (va_up_ne _ _ (by decide))
  refine k _ (fun j hj => ?_) (fun s hs => ?_) (fun j hj => ?_) (fun x hx => ?_)
  · show m2 44 j = _; exact (hM j hj).2
  · show m2 42 (6 * s + 1) = _; exact (hX2.2.2.2.2.2.2.1 s hs).1.2.1
  · show m2 42 j = _; rw [e42]; exact gj j (Or.inl hj)
  · by_cases hx7 : x = 37
    · subst hx7
      rw [va_up_self, h37, e37]
      funext j
      unfold upd
      by_cases hj : j = 10
      · rw [if_pos hj, hj, hns]
      · rw [if_neg hj, if_neg hj]
    · rw [va_up_ne _ _ hx7]
      have hx' := hx
      simp only [List.mem_cons, List.not_mem_nil, or_false, not_or] at hx'
      rw [hag2 x (by simp [hx'.2.1, hx'.2.2.1, hx'.2.2.2]), va_up_ne _ _ hx7]
      exact hag x (by simp [hx'.1])
