set_option maxHeartbeats 4000000 in
set_option maxRecDepth 20000 in
theorem c_parishOf {Q : am_P} {h : Nat → am_E} {n : Nat} {k : Nat} (hk : k < 216) (kq : Q (some (.int (nI (k / 9 % 3)))) h n) : AW mX9_parishOf Q 0 (am_ent (am_l mX9_parishOf) [.int (nI k)]) [] (h) n 0 0 := by
  show AW _ _ 0 [some (.int (nI k))] [] _ _ 0 0
  refine r_iload_n 1 rfl 0 dX9_parishOf_0 rfl rfl ?_
  refine r_bipush 3 rfl 9 dX9_parishOf_1 (by decide) ?_
  refine r_idiv 4 rfl dX9_parishOf_3 (by decide) ?_
  rw [show (nI k) / 9 = nI (k / 9) from pk_div (a := k) (d := 9) (by omega) (by decide) (by decide)]
  refine r_iconst 5 rfl 3 dX9_parishOf_4 rfl ?_
  refine r_irem 6 rfl dX9_parishOf_5 (by decide) ?_
  rw [show (nI (k / 9)) - (nI (k / 9)) / 3 * 3 = nI ((k / 9) % 3) from pk_rem (a := (k / 9)) (d := 3) (by omega) (by decide) (by decide)]
  refine r_ireturn rfl dX9_parishOf_6 (Nat.le_of_ble_eq_true rfl) (Nat.le_of_ble_eq_true rfl) ?_
  exact kq

theorem MO_le {z : am_Z} {m : Nat → Nat → Int32} {D : Nat → Nat → Nat} (hC : C9 z m D) (c : Nat) : MO D c ≤ 9 :=
  st_mo_le (D 7 1) (fun s hs j => so_am_le (by obtain ⟨_, _, _, _, _, _, _, _, h⟩ := hC.2.2.2.2.2.2.1 s hs; exact h) j) c

set_option maxHeartbeats 4000000 in
set_option maxRecDepth 20000 in
theorem c_whoseWith {Q : am_P} {z : am_Z} {m : Nat → Nat → Int32} {n : Nat} {D : Nat → Nat → Nat} (hC : C9 z m D) (hA : AIR m D) {c pa ce sg : Nat} (hc : c < 8) (hsg : sg ≤ 9) (h33 : m 33 c = nI (LF D ce sg c)) (k : Q (some (.int (WX D pa ce sg c))) (wd z m) n) : AW mX9_whoseWith Q 0 (am_ent (am_l mX9_whoseWith) [.ref 1, .int (nI c), .int (nI pa)]) [] (wd z m) n 0 0 := by
  show AW _ _ 0 [some (.ref 1), some (.int (nI c)), some (.int (nI pa))] [] _ _ 0 0
  have hl9 := LF_le (D := D) (ce := ce) hsg c
  have hm9 := MO_le hC c
  have e29 := (hA c hc).1
  have e31 := (hA c hc).2.2
  refine r_aload_n 1 rfl 0 dX9_whoseWith_0 rfl rfl ?_
  refine r_getf (v := .ref 33) (k := 7) 4 rfl dX9_whoseWith_1 (gf_X9_49_9 rfl) rfl rfl ?_
  refine r_iload_n 5 rfl 1 dX9_whoseWith_4 rfl rfl ?_
  refine r_iald (f := m 33) 6 rfl c dX9_whoseWith_5 rfl rfl (by omega) (by decide) ?_
  rw [show (m 33) c = nI (LF D ce sg c) from h33]
  refine r_aload_n 7 rfl 0 dX9_whoseWith_6 rfl rfl ?_
  refine r_getf (v := .ref 28) (k := 6) 10 rfl dX9_whoseWith_7 (gf_X9_45_9 rfl) rfl rfl ?_
  refine r_getf (v := .ref 29) (k := 0) 13 rfl dX9_whoseWith_10 (gf_X9_298_0 rfl) rfl rfl ?_
  refine r_iload_n 14 rfl 1 dX9_whoseWith_13 rfl rfl ?_
  refine r_iald (f := m 29) 15 rfl c dX9_whoseWith_14 rfl rfl (by omega) (by decide) ?_
  rw [show (m 29) c = nI (MO D c) from e29]
  refine r_icmp_le 18 22 rfl dX9_whoseWith_15 rfl (fun c15 => ?_) (fun c15 => ?_)
  · replace c15 : LF D ce sg c ≤ MO D c := (nI_leI (a := (LF D ce sg c)) (b := (MO D c)) (by omega) (by omega)).mp c15
    refine r_aload_n 23 rfl 0 dX9_whoseWith_22 rfl rfl ?_
    refine r_getf (v := .ref 28) (k := 6) 26 rfl dX9_whoseWith_23 (gf_X9_45_9 rfl) rfl rfl ?_
    refine r_getf (v := .ref 31) (k := 2) 29 rfl dX9_whoseWith_26 (gf_X9_183_0 rfl) rfl rfl ?_
    refine r_iload_n 30 rfl 1 dX9_whoseWith_29 rfl rfl ?_
    refine r_iald (f := m 31) 31 rfl c dX9_whoseWith_30 rfl rfl (by omega) (by decide) ?_
    rw [show (m 31) c = WH D c from e31]
    refine r_ireturn rfl dX9_whoseWith_31 (Nat.le_of_ble_eq_true rfl) (Nat.le_of_ble_eq_true rfl) ?_
    have e : WX D pa ce sg c = WH D c := if_neg (by omega)
    rw [e] at k
    exact k
  · replace c15 : ¬ (LF D ce sg c) ≤ (MO D c) := fun q__ => c15 ((nI_leI (a := (LF D ce sg c)) (b := (MO D c)) (by omega) (by omega)).mpr q__)
    refine r_iload_n 19 rfl 2 dX9_whoseWith_18 rfl rfl ?_
    refine r_goto 31 dX9_whoseWith_19 rfl ?_
    refine r_ireturn rfl dX9_whoseWith_31 (Nat.le_of_ble_eq_true rfl) (Nat.le_of_ble_eq_true rfl) ?_
    have e : WX D pa ce sg c = nI pa := if_pos (by omega)
    rw [e] at k
    exact k

set_option maxHeartbeats 4000000 in
set_option maxRecDepth 20000 in
theorem lp_fits {Q : am_P} {z : am_Z} {m : Nat → Nat → Int32} {n : Nat} {D : Nat → Nat → Nat} (hC : C9 z m D) (hA : AIR m D) {nc : Nat → Nat} {np : Nat → Int32} {nn : Nat} (hnn : m 7 8 = nI nn) (hn8 : nn ≤ 8) (hnc : ∀ j, j < nn → m 12 j = nI (nc j) ∧ nc j < 8) (hnp : ∀ j, j < nn → m 13 j = np j) {k : Nat} (hk : k < 216) (hop : D 0 (k / 27) = 0) (h33 : ∀ j, j < 8 → m 33 j = nI (LF D (k / 27) (k % 9 + 1) j)) (k1 : fit D nc np nn k = true → Q (some (.int 1)) (wd z m) n) (k0 : ¬ fit D nc np nn k = true → Q (some (.int 0)) (wd z m) n) : ∀ (d j : Nat), j + d = nn → nf D nc np k j = true → AW mX9_fitsNoses Q 37 [some (.ref 1), some (.int (nI k)), some (.int (nI (k / 27))), some (.int (nI (k / 9 % 3))), some (.int (nI j))] [] (wd z m) n 0 0 := by
  intro d
  induction d with
  | zero =>
    intro j hj hf
    obtain rfl : j = nn := by omega
    refine r_iload 39 rfl dX9_fitsNoses_37 rfl ?_
    refine r_aload_n 40 rfl 0 dX9_fitsNoses_39 rfl rfl ?_
    refine r_getf (v := .ref 7) (k := 3) 43 rfl dX9_fitsNoses_40 (gf_X9_32_9 rfl) rfl rfl ?_
    refine r_getf (v := .int ((m 7) 8)) (k := 8) 46 rfl dX9_fitsNoses_43 (gf_X9_219_5 rfl) rfl rfl ?_
    rw [show (m 7) 8 = nI j from hnn]
    refine r_icmp_ge 49 85 rfl dX9_fitsNoses_46 rfl (fun _ => ?_) (fun q__ => absurd ((nI_leI (a := j) (b := j) (by omega) (by omega)).mpr (by omega)) q__)
    refine r_iconst 86 rfl 1 dX9_fitsNoses_85 rfl ?_
    refine r_zreturn rfl rfl dX9_fitsNoses_86 (Nat.le_of_ble_eq_true rfl) (Nat.le_of_ble_eq_true rfl) ?_
    exact k1 (fit_t hop hf)
  | succ d ih =>
    intro j hj hf
    obtain ⟨c1, c2⟩ := hnc j (by omega)
    have c3 := hnp j (by omega)
    have hfs : nf D nc np k (j + 1) = (nf D nc np k j && decide (WX D (k / 9 % 3) (k / 27) (k % 9 + 1) (nc j) = np j)) := rfl
    refine r_iload 39 rfl dX9_fitsNoses_37 rfl ?_
    refine r_aload_n 40 rfl 0 dX9_fitsNoses_39 rfl rfl ?_
    refine r_getf (v := .ref 7) (k := 3) 43 rfl dX9_fitsNoses_40 (gf_X9_32_9 rfl) rfl rfl ?_
    refine r_getf (v := .int ((m 7) 8)) (k := 8) 46 rfl dX9_fitsNoses_43 (gf_X9_219_5 rfl) rfl rfl ?_
    rw [show (m 7) 8 = nI nn from hnn]
    refine r_icmp_ge 49 85 rfl dX9_fitsNoses_46 rfl (fun q__ => absurd q__ (fun q__ => absurd ((nI_leI (a := nn) (b := j) (by omega) (by omega)).mp q__) (by omega))) (fun _ => ?_)
    refine r_aload_n 50 rfl 0 dX9_fitsNoses_49 rfl rfl ?_
    refine r_aload_n 51 rfl 0 dX9_fitsNoses_50 rfl rfl ?_
    refine r_getf (v := .ref 7) (k := 3) 54 rfl dX9_fitsNoses_51 (gf_X9_32_9 rfl) rfl rfl ?_
    refine r_getf (v := .ref 12) (k := 9) 57 rfl dX9_fitsNoses_54 (gf_X9_331_5 rfl) rfl rfl ?_
    refine r_iload 59 rfl dX9_fitsNoses_57 rfl ?_
    refine r_iald (f := m 12) 60 rfl j dX9_fitsNoses_59 rfl rfl (by omega) (by decide) ?_
    rw [show (m 12) j = nI (nc j) from c1]
    refine r_iload_n 61 rfl 3 dX9_fitsNoses_60 rfl rfl ?_
    refine q_V 64 0 0 rfl [.int (nI (nc j)), .int (nI (k / 9 % 3))] rfl dX9_fitsNoses_61 cl_X9_fitsNoses__X9_whoseWith (lk_X9_334 rfl) im_X9_whoseWith (ci := 9) rfl sl_X9__X9_whoseWith rfl (Nat.le_of_ble_eq_true rfl) (fun _ _ => Nat.le_of_ble_eq_true rfl) rfl rfl (Nat.le_of_ble_eq_true rfl) (Nat.le_of_ble_eq_true rfl) ?_
    refine c_whoseWith hC hA (pa := k / 9 % 3) (ce := k / 27) (sg := k % 9 + 1) c2 (by omega) (h33 _ c2) (k_i ?_)
    refine r_aload_n 65 rfl 0 dX9_fitsNoses_64 rfl rfl ?_
    refine r_getf (v := .ref 7) (k := 3) 68 rfl dX9_fitsNoses_65 (gf_X9_32_9 rfl) rfl rfl ?_
    refine r_getf (v := .ref 13) (k := 10) 71 rfl dX9_fitsNoses_68 (gf_X9_337_5 rfl) rfl rfl ?_
    refine r_iload 73 rfl dX9_fitsNoses_71 rfl ?_
    refine r_iald (f := m 13) 74 rfl j dX9_fitsNoses_73 rfl rfl (by omega) (by decide) ?_
    rw [show (m 13) j = np j from c3]
    refine r_icmp_eq 77 79 rfl dX9_fitsNoses_74 rfl (fun c74 => ?_) (fun c74 => ?_)
    · refine r_iinc 82 rfl (nI (j + 1)) [some (.ref 1), some (.int (nI k)), some (.int (nI (k / 27))), some (.int (nI (k / 9 % 3))), some (.int (nI (j + 1)))] dX9_fitsNoses_79 rfl (nI_1 _) (by decide) rfl ?_
      refine r_goto 37 dX9_fitsNoses_82 rfl ?_
      exact ih (j + 1) (by omega) (by rw [hfs, hf]; simp [c74])
    · refine r_iconst 78 rfl 0 dX9_fitsNoses_77 rfl ?_
      refine r_zreturn rfl rfl dX9_fitsNoses_78 (Nat.le_of_ble_eq_true rfl) (Nat.le_of_ble_eq_true rfl) ?_
      exact k0 (fit_f2 (nf_f c74 nn (by omega)))

set_option maxHeartbeats 4000000 in
set_option maxRecDepth 20000 in
theorem c_fits_0 {Q : am_P} {z : am_Z} {m : Nat → Nat → Int32} {n : Nat} {D : Nat → Nat → Nat} (hC : C9 z m D) (hA : AIR m D) (hf1 : 1 ≤ D 7 0) {nc : Nat → Nat} {np : Nat → Int32} {nn : Nat} (hnn : m 7 8 = nI nn) (hn8 : nn ≤ 8) (hnc : ∀ j, j < nn → m 12 j = nI (nc j) ∧ nc j < 8) (hnp : ∀ j, j < nn → m 13 j = np j) {k : Nat} (hk : k < 216) (hop : ¬ D 0 (k / 27) = 0) (k1 : fit D nc np nn k = true → ∀ m', (∀ j, j < 8 → m' 33 j = nI (LF D (k / 27) (k % 9 + 1) j)) → ag [33] m m' → Q (some (.int 1)) (wd z m') n) (k0 : ¬ fit D nc np nn k = true → ∀ m', ag [33] m m' → Q (some (.int 0)) (wd z m') n) : AW mX9_fitsNoses Q 0 (am_ent (am_l mX9_fitsNoses) [.ref 1, .int (nI k)]) [] (wd z m) n 0 0 := by
  show AW _ _ 0 [some (.ref 1), some (.int (nI k)), none, none, none] [] _ _ 0 0
  obtain ⟨hg, hfd, hf3, hf0, hns, hn6, hsd, hsb, hwi, hw4, hfr, hr1, hhr, hh⟩ := id hC
  have hk27 : k / 27 < 8 := by omega
  refine r_iload_n 1 rfl 1 dX9_fitsNoses_0 rfl rfl ?_
  refine r_bipush 3 rfl 27 dX9_fitsNoses_1 (by decide) ?_
  refine r_idiv 4 rfl dX9_fitsNoses_3 (by decide) ?_
  rw [show (nI k) / 27 = nI (k / 27) from pk_div (a := k) (d := 27) (by omega) (by decide) (by decide)]
  refine r_istore_n 5 rfl 2 [some (.ref 1), some (.int (nI k)), some (.int (nI (k / 27))), none, none] dX9_fitsNoses_4 rfl (by decide) rfl ?_
  refine r_aload_n 6 rfl 0 dX9_fitsNoses_5 rfl rfl ?_
  refine r_getf (v := .ref 4) (k := 1) 9 rfl dX9_fitsNoses_6 (gf_X9_19_9 rfl) rfl rfl ?_
  refine r_iload_n 10 rfl 2 dX9_fitsNoses_9 rfl rfl ?_
  refine q_V 13 0 0 rfl [.int (nI (k / 27))] rfl dX9_fitsNoses_10 cl_X9_fitsNoses__X7_isOpen (lk_X9_116 rfl) im_X7_isOpen (ci := 7) rfl sl_X7__X7_isOpen rfl (Nat.le_of_ble_eq_true rfl) (fun _ _ => Nat.le_of_ble_eq_true rfl) rfl rfl (Nat.le_of_ble_eq_true rfl) (Nat.le_of_ble_eq_true rfl) ?_
  refine c_isOpen_f hC hk27 hop (k_i ?_)
  refine r_if_ne 16 18 rfl dX9_fitsNoses_13 rfl (fun q__ => absurd (by decide) q__) (fun _ => ?_)
  refine r_iconst 17 rfl 0 dX9_fitsNoses_16 rfl ?_
  refine r_zreturn rfl rfl dX9_fitsNoses_17 (Nat.le_of_ble_eq_true rfl) (Nat.le_of_ble_eq_true rfl) ?_
  exact k0 (fit_f1 hop) m (ag_r _ _)

set_option maxHeartbeats 4000000 in
set_option maxRecDepth 20000 in
theorem c_fits_1 {Q : am_P} {z : am_Z} {m : Nat → Nat → Int32} {n : Nat} {D : Nat → Nat → Nat} (hC : C9 z m D) (hA : AIR m D) (hf1 : 1 ≤ D 7 0) {nc : Nat → Nat} {np : Nat → Int32} {nn : Nat} (hnn : m 7 8 = nI nn) (hn8 : nn ≤ 8) (hnc : ∀ j, j < nn → m 12 j = nI (nc j) ∧ nc j < 8) (hnp : ∀ j, j < nn → m 13 j = np j) {k : Nat} (hk : k < 216) (hop : D 0 (k / 27) = 0) (k1 : fit D nc np nn k = true → ∀ m', (∀ j, j < 8 → m' 33 j = nI (LF D (k / 27) (k % 9 + 1) j)) → ag [33] m m' → Q (some (.int 1)) (wd z m') n) (k0 : ¬ fit D nc np nn k = true → ∀ m', ag [33] m m' → Q (some (.int 0)) (wd z m') n) : AW mX9_fitsNoses Q 0 (am_ent (am_l mX9_fitsNoses) [.ref 1, .int (nI k)]) [] (wd z m) n 0 0 := by
  show AW _ _ 0 [some (.ref 1), some (.int (nI k)), none, none, none] [] _ _ 0 0
  obtain ⟨hg, hfd, hf3, hf0, hns, hn6, hsd, hsb, hwi, hw4, hfr, hr1, hhr, hh⟩ := id hC
  have hk27 : k / 27 < 8 := by omega
  refine r_iload_n 1 rfl 1 dX9_fitsNoses_0 rfl rfl ?_
  refine r_bipush 3 rfl 27 dX9_fitsNoses_1 (by decide) ?_
  refine r_idiv 4 rfl dX9_fitsNoses_3 (by decide) ?_
  rw [show (nI k) / 27 = nI (k / 27) from pk_div (a := k) (d := 27) (by omega) (by decide) (by decide)]
  refine r_istore_n 5 rfl 2 [some (.ref 1), some (.int (nI k)), some (.int (nI (k / 27))), none, none] dX9_fitsNoses_4 rfl (by decide) rfl ?_
  refine r_aload_n 6 rfl 0 dX9_fitsNoses_5 rfl rfl ?_
  refine r_getf (v := .ref 4) (k := 1) 9 rfl dX9_fitsNoses_6 (gf_X9_19_9 rfl) rfl rfl ?_
  refine r_iload_n 10 rfl 2 dX9_fitsNoses_9 rfl rfl ?_
  refine q_V 13 0 0 rfl [.int (nI (k / 27))] rfl dX9_fitsNoses_10 cl_X9_fitsNoses__X7_isOpen (lk_X9_116 rfl) im_X7_isOpen (ci := 7) rfl sl_X7__X7_isOpen rfl (Nat.le_of_ble_eq_true rfl) (fun _ _ => Nat.le_of_ble_eq_true rfl) rfl rfl (Nat.le_of_ble_eq_true rfl) (Nat.le_of_ble_eq_true rfl) ?_
  refine c_isOpen_t hC hk27 hop (k_i ?_)
  refine r_if_ne 16 18 rfl dX9_fitsNoses_13 rfl (fun _ => ?_) (fun q__ => absurd q__ (by decide))
  refine r_aload_n 19 rfl 0 dX9_fitsNoses_18 rfl rfl ?_
  refine r_iload_n 20 rfl 2 dX9_fitsNoses_19 rfl rfl ?_
  refine r_iload_n 21 rfl 1 dX9_fitsNoses_20 rfl rfl ?_
  refine r_bipush 23 rfl 9 dX9_fitsNoses_21 (by decide) ?_
  refine r_irem 24 rfl dX9_fitsNoses_23 (by decide) ?_
  rw [show (nI k) - (nI k) / 9 * 9 = nI (k % 9) from pk_rem (a := k) (d := 9) (by omega) (by decide) (by decide)]
  refine r_iconst 25 rfl 1 dX9_fitsNoses_24 rfl ?_
  refine r_iadd 26 rfl dX9_fitsNoses_25 ?_
  rw [show (nI (k % 9)) + 1 = nI ((k % 9) + 1) from nI_add (k % 9) 1]
  refine q_V 29 0 0 rfl [.int (nI (k / 27)), .int (nI ((k % 9) + 1))] rfl dX9_fitsNoses_26 cl_X9_fitsNoses__X9_spreadOneMore (lk_X9_322 rfl) im_X9_spreadOneMore (ci := 9) rfl sl_X9__X9_spreadOneMore rfl (Nat.le_of_ble_eq_true rfl) (fun _ _ => Nat.le_of_ble_eq_true rfl) rfl rfl (Nat.le_of_ble_eq_true rfl) (Nat.le_of_ble_eq_true rfl) ?_
  refine c_som hC (ce := k / 27) (sg := k % 9 + 1) hk27 (by omega) hf1 (fun m' h33 hag => (k_v ?_))
  refine r_iload_n 30 rfl 1 dX9_fitsNoses_29 rfl rfl ?_
  refine q_S 33 0 0 rfl [.int (nI k)] rfl dX9_fitsNoses_30 cl_X9_fitsNoses__X9_parishOf (lk_X9_328 rfl) st_X9_parishOf (Nat.le_of_ble_eq_true rfl) (fun _ _ => Nat.le_of_ble_eq_true rfl) rfl rfl (Nat.le_of_ble_eq_true rfl) (Nat.le_of_ble_eq_true rfl) ?_
  refine c_parishOf hk (k_i ?_)
  refine r_istore_n 34 rfl 3 [some (.ref 1), some (.int (nI k)), some (.int (nI (k / 27))), some (.int (nI (k / 9 % 3))), none] dX9_fitsNoses_33 rfl (by decide) rfl ?_
  refine r_iconst 35 rfl 0 dX9_fitsNoses_34 rfl ?_
  refine r_istore 37 rfl [some (.ref 1), some (.int (nI k)), some (.int (nI (k / 27))), some (.int (nI (k / 9 % 3))), some (.int 0)] dX9_fitsNoses_35 (by decide) rfl ?_
  exact lp_fits (C9_ag hC hag (by decide)) (AIR_ag hA hag (by decide)) (by rw [hag 7 (by decide)]; exact hnn) hn8 (fun j hj => by rw [hag 12 (by decide)]; exact hnc j hj) (fun j hj => by rw [hag 13 (by decide)]; exact hnp j hj) hk hop h33 (fun h => k1 h m' h33 hag) (fun h => k0 h m' hag) nn 0 (by omega) rfl

theorem c_fits {Q : am_P} {z : am_Z} {m : Nat → Nat → Int32} {n : Nat} {D : Nat → Nat → Nat} (hC : C9 z m D) (hA : AIR m D) (hf1 : 1 ≤ D 7 0) {nc : Nat → Nat} {np : Nat → Int32} {nn : Nat} (hnn : m 7 8 = nI nn) (hn8 : nn ≤ 8) (hnc : ∀ j, j < nn → m 12 j = nI (nc j) ∧ nc j < 8) (hnp : ∀ j, j < nn → m 13 j = np j) {k : Nat} (hk : k < 216) (k1 : fit D nc np nn k = true → ∀ m', (∀ j, j < 8 → m' 33 j = nI (LF D (k / 27) (k % 9 + 1) j)) → ag [33] m m' → Q (some (.int 1)) (wd z m') n) (k0 : ¬ fit D nc np nn k = true → ∀ m', ag [33] m m' → Q (some (.int 0)) (wd z m') n) : AW mX9_fitsNoses Q 0 (am_ent (am_l mX9_fitsNoses) [.ref 1, .int (nI k)]) [] (wd z m) n 0 0 := by
  by_cases h : D 0 (k / 27) = 0
  · exact c_fits_1 hC hA hf1 hnn hn8 hnc hnp hk h k1 k0
  · exact c_fits_0 hC hA hf1 hnn hn8 hnc hnp hk h k1 k0

theorem c_whx {Q : am_P} {z : am_Z} {m : Nat → Nat → Int32} {n : Nat} {D : Nat → Nat → Nat} (hn : D 7 1 ≤ 6) {c pa ce sg : Nat} (hc : c < 8) (h44 : ∀ j, j < 8 → m 44 j = BY (XT D pa ce sg) j) (h42 : ∀ s, s < D 7 1 + 1 → m 42 (6 * s + 1) = nI (XT D pa ce sg 2 s)) (k : Q (some (.int (WX D pa ce sg c))) (wd z m) n) : AW mX10_whose Q 0 (am_ent (am_l mX10_whose) [.ref 37, .int (nI c)]) [] (wd z m) n 0 0 := by
  rw [← WH_XT] at k
  exact c_whose (ns := D 7 1 + 1) hc (by omega) (h44 c hc) h42 k

set_option maxHeartbeats 4000000 in
set_option maxRecDepth 20000 in
theorem lp_smelt {Q : am_P} {z : am_Z} {m : Nat → Nat → Int32} {n : Nat} {D : Nat → Nat → Nat} (hn : D 7 1 ≤ 6) {nc : Nat → Nat} {np : Nat → Int32} {nn : Nat} (hnn : m 37 18 = nI nn) (hn8 : nn ≤ 8) (hnc : ∀ j, j < nn → m 48 (2 * j) = nI (nc j) ∧ nc j < 8) (hnp : ∀ j, j < nn → m 48 (2 * j + 1) = np j) {k : Nat} (hk : k < 216) (hop : D 0 (k / 27) = 0) (h44 : ∀ j, j < 8 → m 44 j = BY (XT D (k / 9 % 3) (k / 27) (k % 9 + 1)) j) (h42 : ∀ s, s < D 7 1 + 1 → m 42 (6 * s + 1) = nI (XT D (k / 9 % 3) (k / 27) (k % 9 + 1) 2 s)) (k1 : fit D nc np nn k = true → Q (some (.int 1)) (wd z m) n) (k0 : ¬ fit D nc np nn k = true → Q (some (.int 0)) (wd z m) n) : ∀ (d j : Nat), j + d = nn → AW mX10_isSmeltBy Q 41 [some (.ref 37), some (.int (nI k)), none, some (.int (if nf D nc np k j = true then 1 else 0)), some (.int (nI j))] [] (wd z m) n 0 0 := by
  intro d
  induction d with
  | zero =>
    intro j hj
    obtain rfl : j = nn := by omega
    by_cases hf : nf D nc np k j = true
    · rw [if_pos hf]
      refine r_iload 43 rfl dX10_isSmeltBy_41 rfl ?_
      refine r_aload_n 44 rfl 0 dX10_isSmeltBy_43 rfl rfl ?_
      refine r_getf (v := .int ((m 37) 18)) (k := 18) 47 rfl dX10_isSmeltBy_44 (gf_X10_98_10 rfl) rfl rfl ?_
      rw [show (m 37) 18 = nI j from hnn]
      refine r_icmp_ge 50 93 rfl dX10_isSmeltBy_47 rfl (fun _ => ?_) (fun q__ => absurd ((nI_leI (a := j) (b := j) (by omega) (by omega)).mpr (by omega)) q__)
      refine r_iload_n 94 rfl 3 dX10_isSmeltBy_93 rfl rfl ?_
      refine r_zreturn rfl rfl dX10_isSmeltBy_94 (Nat.le_of_ble_eq_true rfl) (Nat.le_of_ble_eq_true rfl) ?_
      exact k1 (fit_t hop hf)
    · rw [if_neg hf]
      refine r_iload 43 rfl dX10_isSmeltBy_41 rfl ?_
      refine r_aload_n 44 rfl 0 dX10_isSmeltBy_43 rfl rfl ?_
      refine r_getf (v := .int ((m 37) 18)) (k := 18) 47 rfl dX10_isSmeltBy_44 (gf_X10_98_10 rfl) rfl rfl ?_
      rw [show (m 37) 18 = nI j from hnn]
      refine r_icmp_ge 50 93 rfl dX10_isSmeltBy_47 rfl (fun _ => ?_) (fun q__ => absurd ((nI_leI (a := j) (b := j) (by omega) (by omega)).mpr (by omega)) q__)
      refine r_iload_n 94 rfl 3 dX10_isSmeltBy_93 rfl rfl ?_
      refine r_zreturn rfl rfl dX10_isSmeltBy_94 (Nat.le_of_ble_eq_true rfl) (Nat.le_of_ble_eq_true rfl) ?_
      exact k0 (fit_f2 (Bool.eq_false_iff.mpr hf))
  | succ d ih =>
    intro j hj
    obtain ⟨c1, c2⟩ := hnc j (by omega)
    have c3 := hnp j (by omega)
    have hfs : nf D nc np k (j + 1) = (nf D nc np k j && decide (WX D (k / 9 % 3) (k / 27) (k % 9 + 1) (nc j) = np j)) := rfl
    have hx := ih (j + 1) (by omega)
    by_cases hf : nf D nc np k j = true
    · rw [if_pos hf]
      refine r_iload 43 rfl dX10_isSmeltBy_41 rfl ?_
      refine r_aload_n 44 rfl 0 dX10_isSmeltBy_43 rfl rfl ?_
      refine r_getf (v := .int ((m 37) 18)) (k := 18) 47 rfl dX10_isSmeltBy_44 (gf_X10_98_10 rfl) rfl rfl ?_
      rw [show (m 37) 18 = nI nn from hnn]
      refine r_icmp_ge 50 93 rfl dX10_isSmeltBy_47 rfl (fun q__ => absurd q__ (fun q__ => absurd ((nI_leI (a := nn) (b := j) (by omega) (by omega)).mp q__) (by omega))) (fun _ => ?_)
      refine r_iload_n 51 rfl 3 dX10_isSmeltBy_50 rfl rfl ?_
      refine r_if_eq 54 85 rfl dX10_isSmeltBy_51 rfl (fun q__ => absurd q__ (by decide)) (fun _ => ?_)
      refine r_aload_n 55 rfl 0 dX10_isSmeltBy_54 rfl rfl ?_
      refine r_aload_n 56 rfl 0 dX10_isSmeltBy_55 rfl rfl ?_
      refine r_getf (v := .ref 48) (k := 20) 59 rfl dX10_isSmeltBy_56 (gf_X10_40_10 rfl) rfl rfl ?_
      refine r_iconst 60 rfl 2 dX10_isSmeltBy_59 rfl ?_
      refine r_iload 62 rfl dX10_isSmeltBy_60 rfl ?_
      refine r_imul 63 rfl dX10_isSmeltBy_62 ?_
      rw [show 2 * (nI j) = nI (2 * j) from pk_mul 2 j]
      refine r_iald (f := m 48) 64 rfl (2 * j) dX10_isSmeltBy_63 rfl rfl (by omega) (by decide) ?_
      rw [show (m 48) (2 * j) = nI (nc j) from c1]
      refine q_V 67 0 0 rfl [.int (nI (nc j))] rfl dX10_isSmeltBy_64 cl_X10_isSmeltBy__X10_whose (lk_X10_152 rfl) im_X10_whose (ci := 10) rfl sl_X10__X10_whose rfl (Nat.le_of_ble_eq_true rfl) (fun _ _ => Nat.le_of_ble_eq_true rfl) rfl rfl (Nat.le_of_ble_eq_true rfl) (Nat.le_of_ble_eq_true rfl) ?_
      refine c_whx hn c2 h44 h42 (k_i ?_)
      refine r_aload_n 68 rfl 0 dX10_isSmeltBy_67 rfl rfl ?_
      refine r_getf (v := .ref 48) (k := 20) 71 rfl dX10_isSmeltBy_68 (gf_X10_40_10 rfl) rfl rfl ?_
      refine r_iconst 72 rfl 2 dX10_isSmeltBy_71 rfl ?_
      refine r_iload 74 rfl dX10_isSmeltBy_72 rfl ?_
      refine r_imul 75 rfl dX10_isSmeltBy_74 ?_
      rw [show 2 * (nI j) = nI (2 * j) from pk_mul 2 j]
      refine r_iconst 76 rfl 1 dX10_isSmeltBy_75 rfl ?_
      refine r_iadd 77 rfl dX10_isSmeltBy_76 ?_
      rw [show (nI (2 * j)) + 1 = nI ((2 * j) + 1) from nI_add (2 * j) 1]
      refine r_iald (f := m 48) 78 rfl ((2 * j) + 1) dX10_isSmeltBy_77 rfl rfl (by omega) (by decide) ?_
      rw [show (m 48) ((2 * j) + 1) = np j from c3]
      refine r_icmp_ne 81 85 rfl dX10_isSmeltBy_78 rfl (fun c78 => ?_) (fun c78 => ?_)
      · refine r_iconst 86 rfl 0 dX10_isSmeltBy_85 rfl ?_
        refine r_istore_n 87 rfl 3 [some (.ref 37), some (.int (nI k)), none, some (.int 0), some (.int (nI j))] dX10_isSmeltBy_86 rfl (by decide) rfl ?_
        refine r_iinc 90 rfl (nI (j + 1)) [some (.ref 37), some (.int (nI k)), none, some (.int 0), some (.int (nI (j + 1)))] dX10_isSmeltBy_87 rfl (nI_1 _) (by decide) rfl ?_
        refine r_goto 41 dX10_isSmeltBy_90 rfl ?_
        rw [if_neg (by rw [hfs, hf]; simp [c78])] at hx
        exact hx
      · refine r_iconst 82 rfl 1 dX10_isSmeltBy_81 rfl ?_
        refine r_goto 86 dX10_isSmeltBy_82 rfl ?_
        refine r_istore_n 87 rfl 3 [some (.ref 37), some (.int (nI k)), none, some (.int 1), some (.int (nI j))] dX10_isSmeltBy_86 rfl (by decide) rfl ?_
        refine r_iinc 90 rfl (nI (j + 1)) [some (.ref 37), some (.int (nI k)), none, some (.int 1), some (.int (nI (j + 1)))] dX10_isSmeltBy_87 rfl (nI_1 _) (by decide) rfl ?_
        refine r_goto 41 dX10_isSmeltBy_90 rfl ?_
        rw [if_pos (by rw [hfs, hf]; simp [c78])] at hx
        exact hx
    · rw [if_neg hf]
      refine r_iload 43 rfl dX10_isSmeltBy_41 rfl ?_
      refine r_aload_n 44 rfl 0 dX10_isSmeltBy_43 rfl rfl ?_
      refine r_getf (v := .int ((m 37) 18)) (k := 18) 47 rfl dX10_isSmeltBy_44 (gf_X10_98_10 rfl) rfl rfl ?_
      rw [show (m 37) 18 = nI nn from hnn]
      refine r_icmp_ge 50 93 rfl dX10_isSmeltBy_47 rfl (fun q__ => absurd q__ (fun q__ => absurd ((nI_leI (a := nn) (b := j) (by omega) (by omega)).mp q__) (by omega))) (fun _ => ?_)
      refine r_iload_n 51 rfl 3 dX10_isSmeltBy_50 rfl rfl ?_
      refine r_if_eq 54 85 rfl dX10_isSmeltBy_51 rfl (fun _ => ?_) (fun q__ => absurd (by decide) q__)
      refine r_iconst 86 rfl 0 dX10_isSmeltBy_85 rfl ?_
      refine r_istore_n 87 rfl 3 [some (.ref 37), some (.int (nI k)), none, some (.int 0), some (.int (nI j))] dX10_isSmeltBy_86 rfl (by decide) rfl ?_
      refine r_iinc 90 rfl (nI (j + 1)) [some (.ref 37), some (.int (nI k)), none, some (.int 0), some (.int (nI (j + 1)))] dX10_isSmeltBy_87 rfl (nI_1 _) (by decide) rfl ?_
      refine r_goto 41 dX10_isSmeltBy_90 rfl ?_
      rw [if_neg (by rw [hfs]; simp [hf])] at hx
      exact hx

set_option maxHeartbeats 4000000 in
set_option maxRecDepth 20000 in
theorem c_smelt_0 {Q : am_P} {z : am_Z} {m : Nat → Nat → Int32} {n : Nat} {D : Nat → Nat → Nat} (hC : C10 m D) (hn : D 7 1 ≤ 6) (hf1 : 1 ≤ D 7 0) {nc : Nat → Nat} {np : Nat → Int32} {nn : Nat} (hnn : m 37 18 = nI nn) (hn8 : nn ≤ 8) (hnc : ∀ j, j < nn → m 48 (2 * j) = nI (nc j) ∧ nc j < 8) (hnp : ∀ j, j < nn → m 48 (2 * j + 1) = np j) {k : Nat} (hk : k < 216) (hop : ¬ D 0 (k / 27) = 0) (k1 : fit D nc np nn k = true → ∀ m', (∀ j, j < 8 → m' 44 j = BY (XT D (k / 9 % 3) (k / 27) (k % 9 + 1)) j) → (∀ s, s < D 7 1 + 1 → m' 42 (6 * s + 1) = nI (XT D (k / 9 % 3) (k / 27) (k % 9 + 1) 2 s)) → (∀ j, j < 6 * D 7 1 → m' 42 j = m 42 j) → ag [42, 43, 44, 45] m m' → Q (some (.int 1)) (wd z m') n) (k0 : ¬ fit D nc np nn k = true → ∀ m', (∀ j, j < 6 * D 7 1 → m' 42 j = m 42 j) → ag [42, 43, 44, 45] m m' → Q (some (.int 0)) (wd z m') n) : AW mX10_isSmeltBy Q 0 (am_ent (am_l mX10_isSmeltBy) [.ref 37, .int (nI k)]) [] (wd z m) n 0 0 := by
  show AW _ _ 0 [some (.ref 37), some (.int (nI k)), none, none, none] [] _ _ 0 0
  obtain ⟨hg, hfd, hf3, hf0, hns, hn7, hmr, hwi, hw4, hfr, hr1, hhr, hh⟩ := id hC
  have hk27 : k / 27 < 8 := by omega
  obtain ⟨hg1, hg2⟩ := hg (k / 27) hk27
  refine r_aload_n 1 rfl 0 dX10_isSmeltBy_0 rfl rfl ?_
  refine r_getf (v := .ref 39) (k := 7) 4 rfl dX10_isSmeltBy_1 (gf_X10_13_10 rfl) rfl rfl ?_
  refine r_iload_n 5 rfl 1 dX10_isSmeltBy_4 rfl rfl ?_
  refine r_bipush 7 rfl 27 dX10_isSmeltBy_5 (by decide) ?_
  refine r_idiv 8 rfl dX10_isSmeltBy_7 (by decide) ?_
  rw [show (nI k) / 27 = nI (k / 27) from pk_div (a := k) (d := 27) (by omega) (by decide) (by decide)]
  refine r_iald (f := m 39) 9 rfl (k / 27) dX10_isSmeltBy_8 rfl rfl (by omega) (by decide) ?_
  rw [show (m 39) (k / 27) = nI (D 0 (k / 27)) from hg1]
  refine r_if_eq 12 14 rfl dX10_isSmeltBy_9 rfl (fun q__ => absurd q__ (fun q__ => absurd ((nI_eq (a := (D 0 (k / 27))) (b := 0) (by omega) (by omega)).mp q__) (by omega))) (fun _ => ?_)
  refine r_iconst 13 rfl 0 dX10_isSmeltBy_12 rfl ?_
  refine r_zreturn rfl rfl dX10_isSmeltBy_13 (Nat.le_of_ble_eq_true rfl) (Nat.le_of_ble_eq_true rfl) ?_
  exact k0 (fit_f1 hop) m (fun _ _ => rfl) (ag_r _ _)

set_option maxHeartbeats 4000000 in
set_option maxRecDepth 20000 in
theorem c_smelt_1 {Q : am_P} {z : am_Z} {m : Nat → Nat → Int32} {n : Nat} {D : Nat → Nat → Nat} (hC : C10 m D) (hn : D 7 1 ≤ 6) (hf1 : 1 ≤ D 7 0) {nc : Nat → Nat} {np : Nat → Int32} {nn : Nat} (hnn : m 37 18 = nI nn) (hn8 : nn ≤ 8) (hnc : ∀ j, j < nn → m 48 (2 * j) = nI (nc j) ∧ nc j < 8) (hnp : ∀ j, j < nn → m 48 (2 * j + 1) = np j) {k : Nat} (hk : k < 216) (hop : D 0 (k / 27) = 0) (k1 : fit D nc np nn k = true → ∀ m', (∀ j, j < 8 → m' 44 j = BY (XT D (k / 9 % 3) (k / 27) (k % 9 + 1)) j) → (∀ s, s < D 7 1 + 1 → m' 42 (6 * s + 1) = nI (XT D (k / 9 % 3) (k / 27) (k % 9 + 1) 2 s)) → (∀ j, j < 6 * D 7 1 → m' 42 j = m 42 j) → ag [42, 43, 44, 45] m m' → Q (some (.int 1)) (wd z m') n) (k0 : ¬ fit D nc np nn k = true → ∀ m', (∀ j, j < 6 * D 7 1 → m' 42 j = m 42 j) → ag [42, 43, 44, 45] m m' → Q (some (.int 0)) (wd z m') n) : AW mX10_isSmeltBy Q 0 (am_ent (am_l mX10_isSmeltBy) [.ref 37, .int (nI k)]) [] (wd z m) n 0 0 := by
  show AW _ _ 0 [some (.ref 37), some (.int (nI k)), none, none, none] [] _ _ 0 0
  obtain ⟨hg, hfd, hf3, hf0, hns, hn7, hmr, hwi, hw4, hfr, hr1, hhr, hh⟩ := id hC
  have hk27 : k / 27 < 8 := by omega
  obtain ⟨hg1, hg2⟩ := hg (k / 27) hk27
  refine r_aload_n 1 rfl 0 dX10_isSmeltBy_0 rfl rfl ?_
  refine r_getf (v := .ref 39) (k := 7) 4 rfl dX10_isSmeltBy_1 (gf_X10_13_10 rfl) rfl rfl ?_
  refine r_iload_n 5 rfl 1 dX10_isSmeltBy_4 rfl rfl ?_
  refine r_bipush 7 rfl 27 dX10_isSmeltBy_5 (by decide) ?_
  refine r_idiv 8 rfl dX10_isSmeltBy_7 (by decide) ?_
  rw [show (nI k) / 27 = nI (k / 27) from pk_div (a := k) (d := 27) (by omega) (by decide) (by decide)]
  refine r_iald (f := m 39) 9 rfl (k / 27) dX10_isSmeltBy_8 rfl rfl (by omega) (by decide) ?_
  rw [show (m 39) (k / 27) = nI (D 0 (k / 27)) from hg1]
  refine r_if_eq 12 14 rfl dX10_isSmeltBy_9 rfl (fun _ => ?_) (fun q__ => absurd ((nI_eq (a := (D 0 (k / 27))) (b := 0) (by omega) (by omega)).mpr (by omega)) q__)
  refine r_aload_n 15 rfl 0 dX10_isSmeltBy_14 rfl rfl ?_
  refine r_iconst 16 rfl 0 dX10_isSmeltBy_15 rfl ?_
  refine r_iload_n 17 rfl 1 dX10_isSmeltBy_16 rfl rfl ?_
  refine r_bipush 19 rfl 9 dX10_isSmeltBy_17 (by decide) ?_
  refine r_idiv 20 rfl dX10_isSmeltBy_19 (by decide) ?_
  rw [show (nI k) / 9 = nI (k / 9) from pk_div (a := k) (d := 9) (by omega) (by decide) (by decide)]
  refine r_iconst 21 rfl 3 dX10_isSmeltBy_20 rfl ?_
  refine r_irem 22 rfl dX10_isSmeltBy_21 (by decide) ?_
  rw [show (nI (k / 9)) - (nI (k / 9)) / 3 * 3 = nI ((k / 9) % 3) from pk_rem (a := (k / 9)) (d := 3) (by omega) (by decide) (by decide)]
  refine r_iload_n 23 rfl 1 dX10_isSmeltBy_22 rfl rfl ?_
  refine r_bipush 25 rfl 27 dX10_isSmeltBy_23 (by decide) ?_
  refine r_idiv 26 rfl dX10_isSmeltBy_25 (by decide) ?_
  rw [show (nI k) / 27 = nI (k / 27) from pk_div (a := k) (d := 27) (by omega) (by decide) (by decide)]
  refine r_iload_n 27 rfl 1 dX10_isSmeltBy_26 rfl rfl ?_
  refine r_bipush 29 rfl 9 dX10_isSmeltBy_27 (by decide) ?_
  refine r_irem 30 rfl dX10_isSmeltBy_29 (by decide) ?_
  rw [show (nI k) - (nI k) / 9 * 9 = nI (k % 9) from pk_rem (a := k) (d := 9) (by omega) (by decide) (by decide)]
  refine r_iconst 31 rfl 1 dX10_isSmeltBy_30 rfl ?_
  refine r_iadd 32 rfl dX10_isSmeltBy_31 ?_
  rw [show (nI (k % 9)) + 1 = nI ((k % 9) + 1) from nI_add (k % 9) 1]
  refine q_V 35 0 0 rfl [.int 0, .int (nI ((k / 9) % 3)), .int (nI (k / 27)), .int (nI ((k % 9) + 1))] rfl dX10_isSmeltBy_32 cl_X10_isSmeltBy__X10_whoseBy (lk_X10_176 rfl) im_X10_whoseBy (ci := 10) rfl sl_X10__X10_whoseBy rfl (Nat.le_of_ble_eq_true rfl) (fun _ _ => Nat.le_of_ble_eq_true rfl) rfl rfl (Nat.le_of_ble_eq_true rfl) (Nat.le_of_ble_eq_true rfl) ?_
  refine c_whoseBy hC hn hf1 (c := 0) (pa := k / 9 % 3) (ce := k / 27) (sg := k % 9 + 1) (by decide) (by omega) hk27 (by omega) (fun m' h44 h42 g42 hag => (k_i ?_))
  refine r_istore_n 36 rfl 2 [some (.ref 37), some (.int (nI k)), some (.int (WX D (k / 9 % 3) (k / 27) (k % 9 + 1) 0)), none, none] dX10_isSmeltBy_35 rfl (by decide) rfl ?_
  refine r_iconst 37 rfl 1 dX10_isSmeltBy_36 rfl ?_
  refine r_istore_n 38 rfl 3 [some (.ref 37), some (.int (nI k)), some (.int (WX D (k / 9 % 3) (k / 27) (k % 9 + 1) 0)), some (.int 1), none] dX10_isSmeltBy_37 rfl (by decide) rfl ?_
  refine r_iconst 39 rfl 0 dX10_isSmeltBy_38 rfl ?_
  refine r_istore 41 rfl [some (.ref 37), some (.int (nI k)), some (.int (WX D (k / 9 % 3) (k / 27) (k % 9 + 1) 0)), some (.int 1), some (.int 0)] dX10_isSmeltBy_39 (by decide) rfl ?_
  refine AW.drop 2 [some (.ref 37), some (.int (nI k)), none, some (.int 1), some (.int 0)] rfl ?_
  exact lp_smelt hn (by rw [hag 37 (by decide)]; exact hnn) hn8 (fun j hj => by rw [hag 48 (by decide)]; exact hnc j hj) (fun j hj => by rw [hag 48 (by decide)]; exact hnp j hj) hk hop h44 h42 (fun h => k1 h m' h44 h42 g42 hag) (fun h => k0 h m' g42 hag) nn 0 (by omega)

theorem c_smelt {Q : am_P} {z : am_Z} {m : Nat → Nat → Int32} {n : Nat} {D : Nat → Nat → Nat} (hC : C10 m D) (hn : D 7 1 ≤ 6) (hf1 : 1 ≤ D 7 0) {nc : Nat → Nat} {np : Nat → Int32} {nn : Nat} (hnn : m 37 18 = nI nn) (hn8 : nn ≤ 8) (hnc : ∀ j, j < nn → m 48 (2 * j) = nI (nc j) ∧ nc j < 8) (hnp : ∀ j, j < nn → m 48 (2 * j + 1) = np j) {k : Nat} (hk : k < 216) (k1 : fit D nc np nn k = true → ∀ m', (∀ j, j < 8 → m' 44 j = BY (XT D (k / 9 % 3) (k / 27) (k % 9 + 1)) j) → (∀ s, s < D 7 1 + 1 → m' 42 (6 * s + 1) = nI (XT D (k / 9 % 3) (k / 27) (k % 9 + 1) 2 s)) → (∀ j, j < 6 * D 7 1 → m' 42 j = m 42 j) → ag [42, 43, 44, 45] m m' → Q (some (.int 1)) (wd z m') n) (k0 : ¬ fit D nc np nn k = true → ∀ m', (∀ j, j < 6 * D 7 1 → m' 42 j = m 42 j) → ag [42, 43, 44, 45] m m' → Q (some (.int 0)) (wd z m') n) : AW mX10_isSmeltBy Q 0 (am_ent (am_l mX10_isSmeltBy) [.ref 37, .int (nI k)]) [] (wd z m) n 0 0 := by
  by_cases h : D 0 (k / 27) = 0
  · exact c_smelt_1 hC hn hf1 hnn hn8 hnc hnp hk h k1 k0
  · exact c_smelt_0 hC hn hf1 hnn hn8 hnc hnp hk h k1 k0
