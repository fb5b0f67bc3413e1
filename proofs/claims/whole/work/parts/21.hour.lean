set_option maxHeartbeats 4000000 in
set_option maxRecDepth 20000 in
theorem lp_endHour_7 {Q : am_P} {z : am_Z} {m : Nat → Nat → Int32} {n : Nat} {D : Nat → Nat → Nat} (hC : C9 z m D) (hB : BD D 1) (kx : ∀ m', (∀ j, j < D 7 1 → m' 9 j = nI (D 6 j + D 5 j)) → ag [9] m m' → AW mX5_endHour Q 35 [some (.ref 7), none] [] (wd z m') n 0 0) : ∀ (d s : Nat), s + d = D 7 1 → ∀ m', (∀ j, j < s → m' 9 j = nI (D 6 j + D 5 j)) → (∀ j, s ≤ j → j < D 7 1 → m' 9 j = nI (D 6 j)) → ag [9] m m' → AW mX5_endHour Q 2 [some (.ref 7), some (.int (nI s))] [] (wd z m') n 0 0 := by
  obtain ⟨hg, hfd, hf3, hf1, hns, hn6, hsd, hsb, hwi, hw4, hfr, hr1, hhr, hh⟩ := id hC
  intro d
  induction d with
  | zero =>
    intro s hs m' h1 h2 hag
    have hs : s = D 7 1 := by omega
    subst hs
    have hns' : m' 7 0 = nI (D 7 1) := by rw [hag 7 (by decide)]; exact hns
    refine r_iload_n 3 rfl 1 dX5_endHour_2 rfl rfl ?_
    refine r_aload_n 4 rfl 0 dX5_endHour_3 rfl rfl ?_
    refine r_getf (v := .int ((m' 7) 0)) (k := 0) 7 rfl dX5_endHour_4 (gf_X5_31_5 rfl) rfl rfl ?_
    rw [show (m' 7) 0 = nI (D 7 1) from hns']
    refine r_icmp_ge 10 35 rfl dX5_endHour_7 rfl (fun _ => ?_) (fun q__ => absurd ((nI_leI (a := (D 7 1)) (b := (D 7 1)) (by omega) (by omega)).mpr (by omega)) q__)
    refine AW.drop 1 [some (.ref 7), none] rfl ?_
    exact kx m' h1 hag
  | succ d ih =>
    intro s hs m' h1 h2 hag
    have hns' : m' 7 0 = nI (D 7 1) := by rw [hag 7 (by decide)]; exact hns
    obtain ⟨b1, b2, b3, b4⟩ := hsb s (by omega)
    have b1' : m' 8 s = nI (D 5 s) := by rw [hag 8 (by decide)]; exact b1
    have b3' : m' 9 s = nI (D 6 s) := h2 s (Nat.le_refl s) (by omega)
    have hbb := (hB.2 s (by omega)).1
    refine r_iload_n 3 rfl 1 dX5_endHour_2 rfl rfl ?_
    refine r_aload_n 4 rfl 0 dX5_endHour_3 rfl rfl ?_
    refine r_getf (v := .int ((m' 7) 0)) (k := 0) 7 rfl dX5_endHour_4 (gf_X5_31_5 rfl) rfl rfl ?_
    rw [show (m' 7) 0 = nI (D 7 1) from hns']
    refine r_icmp_ge 10 35 rfl dX5_endHour_7 rfl (fun q__ => absurd q__ (fun q__ => absurd ((nI_leI (a := (D 7 1)) (b := s) (by omega) (by omega)).mp q__) (by omega))) (fun _ => ?_)
    refine r_aload_n 11 rfl 0 dX5_endHour_10 rfl rfl ?_
    refine r_getf (v := .ref 8) (k := 1) 14 rfl dX5_endHour_11 (gf_X5_9_5 rfl) rfl rfl ?_
    refine r_iload_n 15 rfl 1 dX5_endHour_14 rfl rfl ?_
    refine r_zald (f := m' 8) 16 rfl s dX5_endHour_15 (by decide) rfl rfl (by omega) (by decide) ?_
    rw [show (m' 8) s = nI (D 5 s) from b1']
    refine r_if_eq 19 29 rfl dX5_endHour_16 rfl (fun c16 => ?_) (fun c16 => ?_)
    · replace c16 : D 5 s = 0 := (nI_eq (a := (D 5 s)) (b := 0) (by omega) (by omega)).mp c16
      refine r_iinc 32 rfl (nI (s + 1)) [some (.ref 7), some (.int (nI (s + 1)))] dX5_endHour_29 rfl (nI_1 _) (by decide) rfl ?_
      refine r_goto 2 dX5_endHour_32 rfl ?_
      refine ih (s + 1) (by omega) m' (fun j hj => ?_) (fun j h3 h4 => h2 j (by omega) h4) hag
      by_cases hjs : j = s
      · subst hjs; rw [b3', show D 5 j = 0 by omega]; rfl
      · exact h1 j (by omega)
    · replace c16 : ¬ (D 5 s) = 0 := fun q__ => c16 ((nI_eq (a := (D 5 s)) (b := 0) (by omega) (by omega)).mpr q__)
      refine r_aload_n 20 rfl 0 dX5_endHour_19 rfl rfl ?_
      refine r_getf (v := .ref 9) (k := 2) 23 rfl dX5_endHour_20 (gf_X5_15_5 rfl) rfl rfl ?_
      refine r_iload_n 24 rfl 1 dX5_endHour_23 rfl rfl ?_
      refine r_dup2 25 rfl dX5_endHour_24 rfl rfl ?_
      refine r_iald (f := m' 9) 26 rfl s dX5_endHour_25 rfl rfl (by omega) (by decide) ?_
      rw [show (m' 9) s = nI (D 6 s) from b3']
      refine r_iconst 27 rfl 1 dX5_endHour_26 rfl ?_
      refine r_iadd 28 rfl dX5_endHour_27 ?_
      rw [show (nI (D 6 s)) + 1 = nI ((D 6 s) + 1) from nI_add (D 6 s) 1]
      refine w_iast 29 rfl s (va_up m' 9 (upd (m' 9) s (nI ((D 6 s) + 1)))) dX5_endHour_28 (by decide) (by decide) (fun _ => rfl) rfl (by omega) (by decide) rfl ?_
      refine r_iinc 32 rfl (nI (s + 1)) [some (.ref 7), some (.int (nI (s + 1)))] dX5_endHour_29 rfl (nI_1 _) (by decide) rfl ?_
      refine r_goto 2 dX5_endHour_32 rfl ?_
      refine ih (s + 1) (by omega) _ (fun j hj => ?_) (fun j h3 h4 => ?_) (ag_up hag (by decide))
      · rw [va_up_self]
        unfold upd
        by_cases hjs : j = s
        · subst hjs; rw [if_pos rfl, show D 5 j = 1 by omega]
        · rw [if_neg hjs]; exact h1 j (by omega)
      · rw [va_up_self]
        unfold upd
        rw [if_neg (show ¬ j = s by omega)]
        exact h2 j (by omega) h4
set_option maxHeartbeats 4000000 in
set_option maxRecDepth 20000 in
theorem c_endHour_7 {Q : am_P} {z : am_Z} {m : Nat → Nat → Int32} {n : Nat} {D : Nat → Nat → Nat} (hC : C9 z m D) (hB : BD D 1) (k : ∀ m', C9 z m' (EH D) → (∀ j, j ≠ 5 → m' 7 j = m 7 j) → ag [7, 9] m m' → Q none (wd z m') n) : AW mX5_endHour Q 0 (am_ent (am_l mX5_endHour) [.ref 7]) [] (wd z m) n 0 0 := by
  show AW _ _ 0 [some (.ref 7), none] [] _ _ 0 0
  obtain ⟨hg, hfd, hf3, hf1, hns, hn6, hsd, hsb, hwi, hw4, hfr, hr1, hhr, hh⟩ := id hC
  refine r_iconst 1 rfl 0 dX5_endHour_0 rfl ?_
  refine r_istore_n 2 rfl 1 [some (.ref 7), some (.int 0)] dX5_endHour_1 rfl (by decide) rfl ?_
  refine lp_endHour_7 hC hB (fun m1 h1 hag1 => ?_) (D 7 1) 0 (by omega) m (fun j hj => absurd hj (Nat.not_lt_zero j)) (fun j _ hj => (hsb j hj).2.2.1) (ag_r _ _)
  have hS : m1 7 = m 7 := hag1 7 (by decide)
  have hhr1 : m1 7 5 = nI (D 7 3) := by rw [hS]; exact hhr
  have hbb := hB.1
  refine r_aload_n 36 rfl 0 dX5_endHour_35 rfl rfl ?_
  refine r_dup 37 rfl dX5_endHour_36 rfl ?_
  refine r_getf (v := .int ((m1 7) 5)) (k := 5) 40 rfl dX5_endHour_37 (gf_X5_42_5 rfl) rfl rfl ?_
  rw [show (m1 7) 5 = nI (D 7 3) from hhr1]
  refine r_iconst 41 rfl 1 dX5_endHour_40 rfl ?_
  refine r_iadd 42 rfl dX5_endHour_41 ?_
  rw [show (nI (D 7 3)) + 1 = nI ((D 7 3) + 1) from nI_add (D 7 3) 1]
  refine w_putf 45 rfl (k := 5) (va_up m1 7 (upd (m1 7) 5 (nI ((D 7 3) + 1)))) dX5_endHour_42 (pf_X5_42_5 rfl) (by decide) (by decide) rfl (Nat.le_of_ble_eq_true rfl) rfl ⟨rfl, rfl⟩ rfl ?_
  refine r_return rfl dX5_endHour_45 (Nat.le_of_ble_eq_true rfl) (Nat.le_of_ble_eq_true rfl) ?_
  refine k _ ⟨fun j hj => ?_, ?_, hf3, hf1, ?_, hn6, hsd, fun s hs => ?_, ?_, hw4, ?_, hr1, ?_, ?_⟩ (fun j hj => (if_neg hj).trans (congrFun hS j)) (ag_up (ag_w hag1 (by decide)) (by decide))
  · show m1 5 j = _ ∧ _; rw [hag1 5 (by decide)]; exact hg j hj
  · show m1 4 2 = _; rw [hag1 4 (by decide)]; exact hfd
  · show m1 7 0 = _; rw [hS]; exact hns
  · obtain ⟨b1, b2, b3, b4⟩ := hsb s hs
    refine ⟨?_, b2, ?_, ?_⟩
    · show m1 8 s = _; rw [hag1 8 (by decide)]; exact b1
    · show m1 9 s = nI (if s < D 7 1 then D 6 s + D 5 s else D 6 s); rw [if_pos (show s < D 7 1 from hs)]; exact h1 s hs
    · show (if s < D 7 1 then D 6 s + D 5 s else D 6 s) < 2 ^ 30; rw [if_pos (show s < D 7 1 from hs)]; have := (hB.2 s hs).1; omega
  · show m1 7 3 = _; rw [hS]; exact hwi
  · show m1 7 4 = _; rw [hS]; exact hfr
  · rfl
  · show D 7 3 + 1 < 2 ^ 30; omega

set_option maxHeartbeats 4000000 in
set_option maxRecDepth 20000 in
theorem lp_endHour_21 {Q : am_P} {z : am_Z} {m : Nat → Nat → Int32} {n : Nat} {D : Nat → Nat → Nat} (hC : CA z m D) (hB : BD D 1) (kx : ∀ m', (∀ j, j < D 7 1 → m' 23 j = nI (D 6 j + D 5 j)) → ag [23] m m' → AW mX5_endHour Q 35 [some (.ref 21), none] [] (wd z m') n 0 0) : ∀ (d s : Nat), s + d = D 7 1 → ∀ m', (∀ j, j < s → m' 23 j = nI (D 6 j + D 5 j)) → (∀ j, s ≤ j → j < D 7 1 → m' 23 j = nI (D 6 j)) → ag [23] m m' → AW mX5_endHour Q 2 [some (.ref 21), some (.int (nI s))] [] (wd z m') n 0 0 := by
  obtain ⟨hg, hfd, hf3, hf1, hns, hn6, hsd, hsb, hwi, hw4, hfr, hr1, hhr, hh⟩ := id hC
  intro d
  induction d with
  | zero =>
    intro s hs m' h1 h2 hag
    have hs : s = D 7 1 := by omega
    subst hs
    have hns' : m' 21 0 = nI (D 7 1) := by rw [hag 21 (by decide)]; exact hns
    refine r_iload_n 3 rfl 1 dX5_endHour_2 rfl rfl ?_
    refine r_aload_n 4 rfl 0 dX5_endHour_3 rfl rfl ?_
    refine r_getf (v := .int ((m' 21) 0)) (k := 0) 7 rfl dX5_endHour_4 (gf_X5_31_5 rfl) rfl rfl ?_
    rw [show (m' 21) 0 = nI (D 7 1) from hns']
    refine r_icmp_ge 10 35 rfl dX5_endHour_7 rfl (fun _ => ?_) (fun q__ => absurd ((nI_leI (a := (D 7 1)) (b := (D 7 1)) (by omega) (by omega)).mpr (by omega)) q__)
    refine AW.drop 1 [some (.ref 21), none] rfl ?_
    exact kx m' h1 hag
  | succ d ih =>
    intro s hs m' h1 h2 hag
    have hns' : m' 21 0 = nI (D 7 1) := by rw [hag 21 (by decide)]; exact hns
    obtain ⟨b1, b2, b3, b4⟩ := hsb s (by omega)
    have b1' : m' 22 s = nI (D 5 s) := by rw [hag 22 (by decide)]; exact b1
    have b3' : m' 23 s = nI (D 6 s) := h2 s (Nat.le_refl s) (by omega)
    have hbb := (hB.2 s (by omega)).1
    refine r_iload_n 3 rfl 1 dX5_endHour_2 rfl rfl ?_
    refine r_aload_n 4 rfl 0 dX5_endHour_3 rfl rfl ?_
    refine r_getf (v := .int ((m' 21) 0)) (k := 0) 7 rfl dX5_endHour_4 (gf_X5_31_5 rfl) rfl rfl ?_
    rw [show (m' 21) 0 = nI (D 7 1) from hns']
    refine r_icmp_ge 10 35 rfl dX5_endHour_7 rfl (fun q__ => absurd q__ (fun q__ => absurd ((nI_leI (a := (D 7 1)) (b := s) (by omega) (by omega)).mp q__) (by omega))) (fun _ => ?_)
    refine r_aload_n 11 rfl 0 dX5_endHour_10 rfl rfl ?_
    refine r_getf (v := .ref 22) (k := 1) 14 rfl dX5_endHour_11 (gf_X5_9_5 rfl) rfl rfl ?_
    refine r_iload_n 15 rfl 1 dX5_endHour_14 rfl rfl ?_
    refine r_zald (f := m' 22) 16 rfl s dX5_endHour_15 (by decide) rfl rfl (by omega) (by decide) ?_
    rw [show (m' 22) s = nI (D 5 s) from b1']
    refine r_if_eq 19 29 rfl dX5_endHour_16 rfl (fun c16 => ?_) (fun c16 => ?_)
    · replace c16 : D 5 s = 0 := (nI_eq (a := (D 5 s)) (b := 0) (by omega) (by omega)).mp c16
      refine r_iinc 32 rfl (nI (s + 1)) [some (.ref 21), some (.int (nI (s + 1)))] dX5_endHour_29 rfl (nI_1 _) (by decide) rfl ?_
      refine r_goto 2 dX5_endHour_32 rfl ?_
      refine ih (s + 1) (by omega) m' (fun j hj => ?_) (fun j h3 h4 => h2 j (by omega) h4) hag
      by_cases hjs : j = s
      · subst hjs; rw [b3', show D 5 j = 0 by omega]; rfl
      · exact h1 j (by omega)
    · replace c16 : ¬ (D 5 s) = 0 := fun q__ => c16 ((nI_eq (a := (D 5 s)) (b := 0) (by omega) (by omega)).mpr q__)
      refine r_aload_n 20 rfl 0 dX5_endHour_19 rfl rfl ?_
      refine r_getf (v := .ref 23) (k := 2) 23 rfl dX5_endHour_20 (gf_X5_15_5 rfl) rfl rfl ?_
      refine r_iload_n 24 rfl 1 dX5_endHour_23 rfl rfl ?_
      refine r_dup2 25 rfl dX5_endHour_24 rfl rfl ?_
      refine r_iald (f := m' 23) 26 rfl s dX5_endHour_25 rfl rfl (by omega) (by decide) ?_
      rw [show (m' 23) s = nI (D 6 s) from b3']
      refine r_iconst 27 rfl 1 dX5_endHour_26 rfl ?_
      refine r_iadd 28 rfl dX5_endHour_27 ?_
      rw [show (nI (D 6 s)) + 1 = nI ((D 6 s) + 1) from nI_add (D 6 s) 1]
      refine w_iast 29 rfl s (va_up m' 23 (upd (m' 23) s (nI ((D 6 s) + 1)))) dX5_endHour_28 (by decide) (by decide) (fun _ => rfl) rfl (by omega) (by decide) rfl ?_
      refine r_iinc 32 rfl (nI (s + 1)) [some (.ref 21), some (.int (nI (s + 1)))] dX5_endHour_29 rfl (nI_1 _) (by decide) rfl ?_
      refine r_goto 2 dX5_endHour_32 rfl ?_
      refine ih (s + 1) (by omega) _ (fun j hj => ?_) (fun j h3 h4 => ?_) (ag_up hag (by decide))
      · rw [va_up_self]
        unfold upd
        by_cases hjs : j = s
        · subst hjs; rw [if_pos rfl, show D 5 j = 1 by omega]
        · rw [if_neg hjs]; exact h1 j (by omega)
      · rw [va_up_self]
        unfold upd
        rw [if_neg (show ¬ j = s by omega)]
        exact h2 j (by omega) h4
set_option maxHeartbeats 4000000 in
set_option maxRecDepth 20000 in
theorem c_endHour_21 {Q : am_P} {z : am_Z} {m : Nat → Nat → Int32} {n : Nat} {D : Nat → Nat → Nat} (hC : CA z m D) (hB : BD D 1) (k : ∀ m', CA z m' (EH D) → (∀ j, j ≠ 5 → m' 21 j = m 21 j) → ag [21, 23] m m' → Q none (wd z m') n) : AW mX5_endHour Q 0 (am_ent (am_l mX5_endHour) [.ref 21]) [] (wd z m) n 0 0 := by
  show AW _ _ 0 [some (.ref 21), none] [] _ _ 0 0
  obtain ⟨hg, hfd, hf3, hf1, hns, hn6, hsd, hsb, hwi, hw4, hfr, hr1, hhr, hh⟩ := id hC
  refine r_iconst 1 rfl 0 dX5_endHour_0 rfl ?_
  refine r_istore_n 2 rfl 1 [some (.ref 21), some (.int 0)] dX5_endHour_1 rfl (by decide) rfl ?_
  refine lp_endHour_21 hC hB (fun m1 h1 hag1 => ?_) (D 7 1) 0 (by omega) m (fun j hj => absurd hj (Nat.not_lt_zero j)) (fun j _ hj => (hsb j hj).2.2.1) (ag_r _ _)
  have hS : m1 21 = m 21 := hag1 21 (by decide)
  have hhr1 : m1 21 5 = nI (D 7 3) := by rw [hS]; exact hhr
  have hbb := hB.1
  refine r_aload_n 36 rfl 0 dX5_endHour_35 rfl rfl ?_
  refine r_dup 37 rfl dX5_endHour_36 rfl ?_
  refine r_getf (v := .int ((m1 21) 5)) (k := 5) 40 rfl dX5_endHour_37 (gf_X5_42_5 rfl) rfl rfl ?_
  rw [show (m1 21) 5 = nI (D 7 3) from hhr1]
  refine r_iconst 41 rfl 1 dX5_endHour_40 rfl ?_
  refine r_iadd 42 rfl dX5_endHour_41 ?_
  rw [show (nI (D 7 3)) + 1 = nI ((D 7 3) + 1) from nI_add (D 7 3) 1]
  refine w_putf 45 rfl (k := 5) (va_up m1 21 (upd (m1 21) 5 (nI ((D 7 3) + 1)))) dX5_endHour_42 (pf_X5_42_5 rfl) (by decide) (by decide) rfl (Nat.le_of_ble_eq_true rfl) rfl ⟨rfl, rfl⟩ rfl ?_
  refine r_return rfl dX5_endHour_45 (Nat.le_of_ble_eq_true rfl) (Nat.le_of_ble_eq_true rfl) ?_
  refine k _ ⟨fun j hj => ?_, ?_, hf3, hf1, ?_, hn6, hsd, fun s hs => ?_, ?_, hw4, ?_, hr1, ?_, ?_⟩ (fun j hj => (if_neg hj).trans (congrFun hS j)) (ag_up (ag_w hag1 (by decide)) (by decide))
  · show m1 5 j = _ ∧ _; rw [hag1 5 (by decide)]; exact hg j hj
  · show m1 4 2 = _; rw [hag1 4 (by decide)]; exact hfd
  · show m1 21 0 = _; rw [hS]; exact hns
  · obtain ⟨b1, b2, b3, b4⟩ := hsb s hs
    refine ⟨?_, b2, ?_, ?_⟩
    · show m1 22 s = _; rw [hag1 22 (by decide)]; exact b1
    · show m1 23 s = nI (if s < D 7 1 then D 6 s + D 5 s else D 6 s); rw [if_pos (show s < D 7 1 from hs)]; exact h1 s hs
    · show (if s < D 7 1 then D 6 s + D 5 s else D 6 s) < 2 ^ 30; rw [if_pos (show s < D 7 1 from hs)]; have := (hB.2 s hs).1; omega
  · show m1 21 3 = _; rw [hS]; exact hwi
  · show m1 21 4 = _; rw [hS]; exact hfr
  · rfl
  · show D 7 3 + 1 < 2 ^ 30; omega

set_option maxHeartbeats 4000000 in
set_option maxRecDepth 20000 in
theorem lp_ends {Q : am_P} {z : am_Z} {m : Nat → Nat → Int32} {n : Nat} {D : Nat → Nat → Nat} (hC : C10 m D) (hB : BD D 1) (kx : ∀ m', (∀ j, j < D 7 1 → m' 42 (6 * j + 5) = nI (D 6 j + D 5 j)) → (∀ j, (¬ ∃ s, s < D 7 1 ∧ j = 6 * s + 5) → m' 42 j = m 42 j) → ag [42] m m' → AW mX10_ends Q 41 [some (.ref 37), none] [] (wd z m') n 0 0) : ∀ (d s : Nat), s + d = D 7 1 → ∀ m', (∀ j, j < s → m' 42 (6 * j + 5) = nI (D 6 j + D 5 j)) → (∀ j, (¬ ∃ s', s' < s ∧ j = 6 * s' + 5) → m' 42 j = m 42 j) → ag [42] m m' → AW mX10_ends Q 2 [some (.ref 37), some (.int (nI s))] [] (wd z m') n 0 0 := by
  obtain ⟨hg, hfd, hf3, hf1, hns, hn7, hmr, hwi, hw4, hfr, hr1, hhr, hh⟩ := id hC
  intro d
  induction d with
  | zero =>
    intro s hs m' h1 h2 hag
    have hs : s = D 7 1 := by omega
    subst hs
    have hns' : m' 37 10 = nI (D 7 1) := by rw [hag 37 (by decide)]; exact hns
    refine r_iload_n 3 rfl 1 dX10_ends_2 rfl rfl ?_
    refine r_aload_n 4 rfl 0 dX10_ends_3 rfl rfl ?_
    refine r_getf (v := .int ((m' 37) 10)) (k := 10) 7 rfl dX10_ends_4 (gf_X10_95_10 rfl) rfl rfl ?_
    rw [show (m' 37) 10 = nI (D 7 1) from hns']
    refine r_icmp_ge 10 41 rfl dX10_ends_7 rfl (fun _ => ?_) (fun q__ => absurd ((nI_leI (a := (D 7 1)) (b := (D 7 1)) (by omega) (by omega)).mpr (by omega)) q__)
    refine AW.drop 1 [some (.ref 37), none] rfl ?_
    exact kx m' h1 h2 hag
  | succ d ih =>
    intro s hs m' h1 h2 hag
    have hns' : m' 37 10 = nI (D 7 1) := by rw [hag 37 (by decide)]; exact hns
    obtain ⟨⟨e0, e1, e2, e3, e4, e5⟩, q1, q2, q3, q4, q5, q6⟩ := hmr s (by omega)
    have e4' : m' 42 (6 * s + 4) = nI (D 5 s) := by rw [h2 _ (fun ⟨s', _, q⟩ => by omega)]; exact e4
    have e5' : m' 42 (6 * s + 5) = nI (D 6 s) := by rw [h2 _ (fun ⟨s', _, q⟩ => by omega)]; exact e5
    have hbb := (hB.2 s (by omega)).1
    refine r_iload_n 3 rfl 1 dX10_ends_2 rfl rfl ?_
    refine r_aload_n 4 rfl 0 dX10_ends_3 rfl rfl ?_
    refine r_getf (v := .int ((m' 37) 10)) (k := 10) 7 rfl dX10_ends_4 (gf_X10_95_10 rfl) rfl rfl ?_
    rw [show (m' 37) 10 = nI (D 7 1) from hns']
    refine r_icmp_ge 10 41 rfl dX10_ends_7 rfl (fun q__ => absurd q__ (fun q__ => absurd ((nI_leI (a := (D 7 1)) (b := s) (by omega) (by omega)).mp q__) (by omega))) (fun _ => ?_)
    refine r_aload_n 11 rfl 0 dX10_ends_10 rfl rfl ?_
    refine r_getf (v := .ref 42) (k := 11) 14 rfl dX10_ends_11 (gf_X10_22_10 rfl) rfl rfl ?_
    refine r_bipush 16 rfl 6 dX10_ends_14 (by decide) ?_
    refine r_iload_n 17 rfl 1 dX10_ends_16 rfl rfl ?_
    refine r_imul 18 rfl dX10_ends_17 ?_
    rw [show 6 * (nI s) = nI (6 * s) from pk_mul 6 s]
    refine r_iconst 19 rfl 5 dX10_ends_18 rfl ?_
    refine r_iadd 20 rfl dX10_ends_19 ?_
    rw [show (nI (6 * s)) + 5 = nI ((6 * s) + 5) from nI_add (6 * s) 5]
    refine r_dup2 21 rfl dX10_ends_20 rfl rfl ?_
    refine r_iald (f := m' 42) 22 rfl ((6 * s) + 5) dX10_ends_21 rfl rfl (by omega) (by decide) ?_
    rw [show (m' 42) ((6 * s) + 5) = nI (D 6 s) from e5']
    refine r_aload_n 23 rfl 0 dX10_ends_22 rfl rfl ?_
    refine r_getf (v := .ref 42) (k := 11) 26 rfl dX10_ends_23 (gf_X10_22_10 rfl) rfl rfl ?_
    refine r_bipush 28 rfl 6 dX10_ends_26 (by decide) ?_
    refine r_iload_n 29 rfl 1 dX10_ends_28 rfl rfl ?_
    refine r_imul 30 rfl dX10_ends_29 ?_
    rw [show 6 * (nI s) = nI (6 * s) from pk_mul 6 s]
    refine r_iconst 31 rfl 4 dX10_ends_30 rfl ?_
    refine r_iadd 32 rfl dX10_ends_31 ?_
    rw [show (nI (6 * s)) + 4 = nI ((6 * s) + 4) from nI_add (6 * s) 4]
    refine r_iald (f := m' 42) 33 rfl ((6 * s) + 4) dX10_ends_32 rfl rfl (by omega) (by decide) ?_
    rw [show (m' 42) ((6 * s) + 4) = nI (D 5 s) from e4']
    refine r_iadd 34 rfl dX10_ends_33 ?_
    rw [show (nI (D 6 s)) + (nI (D 5 s)) = nI ((D 6 s) + (D 5 s)) from nI_add (D 6 s) (D 5 s)]
    refine w_iast 35 rfl ((6 * s) + 5) (va_up m' 42 (upd (m' 42) ((6 * s) + 5) (nI ((D 6 s) + (D 5 s))))) dX10_ends_34 (by decide) (by decide) (fun _ => rfl) rfl (by omega) (by decide) rfl ?_
    refine r_iinc 38 rfl (nI (s + 1)) [some (.ref 37), some (.int (nI (s + 1)))] dX10_ends_35 rfl (nI_1 _) (by decide) rfl ?_
    refine r_goto 2 dX10_ends_38 rfl ?_
    refine ih (s + 1) (by omega) _ (fun j hj => ?_) (fun j hj => ?_) (ag_up hag (by decide))
    · rw [va_up_self]
      unfold upd
      by_cases hjs : j = s
      · subst hjs; rw [if_pos rfl]
      · rw [if_neg (show ¬ 6 * j + 5 = 6 * s + 5 by omega)]; exact h1 j (by omega)
    · rw [va_up_self]
      unfold upd
      rw [if_neg (fun q => hj ⟨s, by omega, q⟩)]
      exact h2 j (fun ⟨s', h3, q⟩ => hj ⟨s', by omega, q⟩)
set_option maxHeartbeats 4000000 in
set_option maxRecDepth 20000 in
theorem c_ends {Q : am_P} {z : am_Z} {m : Nat → Nat → Int32} {n : Nat} {D : Nat → Nat → Nat} (hC : C10 m D) (hB : BD D 1) (k : ∀ m', C10 m' (EH D) → (∀ j, (¬ ∃ s, s < D 7 1 ∧ j = 6 * s + 5) → m' 42 j = m 42 j) → m' 37 = upd (m 37) 5 (nI (D 7 3 + 1)) → ag [37, 42] m m' → Q none (wd z m') n) : AW mX10_ends Q 0 (am_ent (am_l mX10_ends) [.ref 37]) [] (wd z m) n 0 0 := by
  show AW _ _ 0 [some (.ref 37), none] [] _ _ 0 0
  obtain ⟨hg, hfd, hf3, hf1, hns, hn7, hmr, hwi, hw4, hfr, hr1, hhr, hh⟩ := id hC
  refine r_iconst 1 rfl 0 dX10_ends_0 rfl ?_
  refine r_istore_n 2 rfl 1 [some (.ref 37), some (.int 0)] dX10_ends_1 rfl (by decide) rfl ?_
  refine lp_ends hC hB (fun m1 h1 h2 hag1 => ?_) (D 7 1) 0 (by omega) m (fun j hj => absurd hj (Nat.not_lt_zero j)) (fun j _ => rfl) (ag_r _ _)
  have hS : m1 37 = m 37 := hag1 37 (by decide)
  have hhr1 : m1 37 5 = nI (D 7 3) := by rw [hS]; exact hhr
  have hbb := hB.1
  refine r_aload_n 42 rfl 0 dX10_ends_41 rfl rfl ?_
  refine r_dup 43 rfl dX10_ends_42 rfl ?_
  refine r_getf (v := .int ((m1 37) 5)) (k := 5) 46 rfl dX10_ends_43 (gf_X10_92_10 rfl) rfl rfl ?_
  rw [show (m1 37) 5 = nI (D 7 3) from hhr1]
  refine r_iconst 47 rfl 1 dX10_ends_46 rfl ?_
  refine r_iadd 48 rfl dX10_ends_47 ?_
  rw [show (nI (D 7 3)) + 1 = nI ((D 7 3) + 1) from nI_add (D 7 3) 1]
  refine w_putf 51 rfl (k := 5) (va_up m1 37 (upd (m1 37) 5 (nI ((D 7 3) + 1)))) dX10_ends_48 (pf_X10_92_10 rfl) (by decide) (by decide) rfl (Nat.le_of_ble_eq_true rfl) rfl ⟨rfl, rfl⟩ rfl ?_
  refine r_return rfl dX10_ends_51 (Nat.le_of_ble_eq_true rfl) (Nat.le_of_ble_eq_true rfl) ?_
  refine k _ ⟨fun j hj => ?_, ?_, hf3, hf1, ?_, hn7, fun s hs => ?_, ?_, hw4, ?_, hr1, ?_, ?_⟩ (fun j hj => h2 j hj) ?_ (ag_up (ag_w hag1 (by decide)) (by decide))
  · show m1 39 j = _ ∧ _; rw [hag1 39 (by decide)]; exact hg j hj
  · show m1 37 2 = _; rw [hS]; exact hfd
  · show m1 37 10 = _; rw [hS]; exact hns
  · obtain ⟨⟨e0, e1, e2, e3, e4, e5⟩, q1, q2, q3, q4, q5, q6⟩ := hmr s hs
    refine ⟨⟨?_, ?_, ?_, ?_, ?_, ?_⟩, q1, q2, q3, q4, q5, ?_⟩
    · show m1 42 (6 * s) = _; rw [h2 _ (fun ⟨s', _, q⟩ => by omega)]; exact e0
    · show m1 42 (6 * s + 1) = _; rw [h2 _ (fun ⟨s', _, q⟩ => by omega)]; exact e1
    · show m1 42 (6 * s + 2) = _; rw [h2 _ (fun ⟨s', _, q⟩ => by omega)]; exact e2
    · show m1 42 (6 * s + 3) = _; rw [h2 _ (fun ⟨s', _, q⟩ => by omega)]; exact e3
    · show m1 42 (6 * s + 4) = _; rw [h2 _ (fun ⟨s', _, q⟩ => by omega)]; exact e4
    · show m1 42 (6 * s + 5) = nI (if s < D 7 1 then D 6 s + D 5 s else D 6 s); rw [if_pos (show s < D 7 1 from hs)]; exact h1 s hs
    · show (if s < D 7 1 then D 6 s + D 5 s else D 6 s) < 2 ^ 30; rw [if_pos (show s < D 7 1 from hs)]; have := (hB.2 s hs).1; omega
  · show m1 37 3 = _; rw [hS]; exact hwi
  · show m1 37 4 = _; rw [hS]; exact hfr
  · rfl
  · show D 7 3 + 1 < 2 ^ 30; omega
  · show upd (m1 37) 5 _ = _; rw [hS]

set_option maxHeartbeats 4000000 in
set_option maxRecDepth 20000 in
theorem c9_hour_s {Q : am_P} {z : am_Z} {m : Nat → Nat → Int32} {n : Nat} (hfd : m 4 2 = nI 0) (k : Q (some (.int (-103))) (wd z m) n) : AW mX9_hour Q 0 (am_ent (am_l mX9_hour) [.ref 1]) [] (wd z m) n 0 0 := by
  show AW _ _ 0 [some (.ref 1)] [] _ _ 0 0
  refine r_aload_n 1 rfl 0 dX9_hour_0 rfl rfl ?_
  refine r_getf (v := .ref 4) (k := 1) 4 rfl dX9_hour_1 (gf_X9_19_9 rfl) rfl rfl ?_
  refine q_V 7 0 0 rfl [] rfl dX9_hour_4 cl_X9_hour__X7_isThere (lk_X9_171 rfl) im_X7_isThere (ci := 7) rfl sl_X7__X7_isThere rfl (Nat.le_of_ble_eq_true rfl) (fun _ _ => Nat.le_of_ble_eq_true rfl) rfl rfl (Nat.le_of_ble_eq_true rfl) (Nat.le_of_ble_eq_true rfl) ?_
  refine c_isThere_f hfd (k_i ?_)
  refine r_if_ne 10 13 rfl dX9_hour_7 rfl (fun q__ => absurd (by decide) q__) (fun _ => ?_)
  refine r_bipush 12 rfl (-103) dX9_hour_10 (by decide) ?_
  refine r_ireturn rfl dX9_hour_12 (Nat.le_of_ble_eq_true rfl) (Nat.le_of_ble_eq_true rfl) ?_
  exact k

set_option maxHeartbeats 4000000 in
set_option maxRecDepth 20000 in
theorem c9_hour_t {Q : am_P} {z : am_Z} {m : Nat → Nat → Int32} {n : Nat} {D : Nat → Nat → Nat} (hC : C9 z m D) (hf1 : 1 ≤ D 7 0) (hB : BD D 1) (k : ∀ m', C9 z m' (EH D) → (∀ j, j ≠ 5 → m' 7 j = m 7 j) → ag [7, 9] m m' → Q (some (.int (nI (D 7 3 + 1)))) (wd z m') n) : AW mX9_hour Q 0 (am_ent (am_l mX9_hour) [.ref 1]) [] (wd z m) n 0 0 := by
  show AW _ _ 0 [some (.ref 1)] [] _ _ 0 0
  obtain ⟨hg, hfd, hf3, hf0, hns, hn6, hsd, hsb, hwi, hw4, hfr, hr1, hhr, hh⟩ := id hC
  refine r_aload_n 1 rfl 0 dX9_hour_0 rfl rfl ?_
  refine r_getf (v := .ref 4) (k := 1) 4 rfl dX9_hour_1 (gf_X9_19_9 rfl) rfl rfl ?_
  refine q_V 7 0 0 rfl [] rfl dX9_hour_4 cl_X9_hour__X7_isThere (lk_X9_171 rfl) im_X7_isThere (ci := 7) rfl sl_X7__X7_isThere rfl (Nat.le_of_ble_eq_true rfl) (fun _ _ => Nat.le_of_ble_eq_true rfl) rfl rfl (Nat.le_of_ble_eq_true rfl) (Nat.le_of_ble_eq_true rfl) ?_
  refine c_isThere_t hfd hf1 hf3 (k_i ?_)
  refine r_if_ne 10 13 rfl dX9_hour_7 rfl (fun _ => ?_) (fun q__ => absurd q__ (by decide))
  refine r_aload_n 14 rfl 0 dX9_hour_13 rfl rfl ?_
  refine r_getf (v := .ref 7) (k := 3) 17 rfl dX9_hour_14 (gf_X9_32_9 rfl) rfl rfl ?_
  refine q_V 20 0 0 rfl [] rfl dX9_hour_17 cl_X9_hour__X5_endHour (lk_X9_189 rfl) im_X5_endHour (ci := 5) rfl sl_X5__X5_endHour rfl (Nat.le_of_ble_eq_true rfl) (fun _ _ => Nat.le_of_ble_eq_true rfl) rfl rfl (Nat.le_of_ble_eq_true rfl) (Nat.le_of_ble_eq_true rfl) ?_
  refine c_endHour_7 hC hB (fun m' hC' h7 hag => (k_v ?_))
  have hh2 : m' 7 5 = nI (D 7 3 + 1) := hC'.2.2.2.2.2.2.2.2.2.2.2.2.1
  refine r_aload_n 21 rfl 0 dX9_hour_20 rfl rfl ?_
  refine r_getf (v := .ref 7) (k := 3) 24 rfl dX9_hour_21 (gf_X9_32_9 rfl) rfl rfl ?_
  refine r_getf (v := .int ((m' 7) 5)) (k := 5) 27 rfl dX9_hour_24 (gf_X9_192_5 rfl) rfl rfl ?_
  rw [show (m' 7) 5 = nI (D 7 3 + 1) from hh2]
  refine r_ireturn rfl dX9_hour_27 (Nat.le_of_ble_eq_true rfl) (Nat.le_of_ble_eq_true rfl) ?_
  exact k m' hC' h7 hag

set_option maxHeartbeats 4000000 in
set_option maxRecDepth 20000 in
theorem c10_hour_s {Q : am_P} {z : am_Z} {m : Nat → Nat → Int32} {n : Nat} (hfd : m 37 2 = nI 0) (k : Q (some (.int (-103))) (wd z m) n) : AW mX10_hour Q 0 (am_ent (am_l mX10_hour) [.ref 37]) [] (wd z m) n 0 0 := by
  show AW _ _ 0 [some (.ref 37)] [] _ _ 0 0
  refine r_aload_n 1 rfl 0 dX10_hour_0 rfl rfl ?_
  refine q_V 4 0 0 rfl [] rfl dX10_hour_1 cl_X10_hour__X10_lacks (lk_X10_109 rfl) im_X10_lacks (ci := 10) rfl sl_X10__X10_lacks rfl (Nat.le_of_ble_eq_true rfl) (fun _ _ => Nat.le_of_ble_eq_true rfl) rfl rfl (Nat.le_of_ble_eq_true rfl) (Nat.le_of_ble_eq_true rfl) ?_
  refine c_lacks_t hfd (k_i ?_)
  refine r_if_eq 7 10 rfl dX10_hour_4 rfl (fun q__ => absurd q__ (by decide)) (fun _ => ?_)
  refine r_bipush 9 rfl (-103) dX10_hour_7 (by decide) ?_
  refine r_ireturn rfl dX10_hour_9 (Nat.le_of_ble_eq_true rfl) (Nat.le_of_ble_eq_true rfl) ?_
  exact k

set_option maxHeartbeats 4000000 in
set_option maxRecDepth 20000 in
theorem c10_hour_t {Q : am_P} {z : am_Z} {m : Nat → Nat → Int32} {n : Nat} {D : Nat → Nat → Nat} (hC : C10 m D) (hf1 : 1 ≤ D 7 0) (hB : BD D 1) (k : ∀ m', C10 m' (EH D) → (∀ j, (¬ ∃ s, s < D 7 1 ∧ j = 6 * s + 5) → m' 42 j = m 42 j) → m' 37 = upd (m 37) 5 (nI (D 7 3 + 1)) → ag [37, 42] m m' → Q (some (.int (nI (D 7 3 + 1)))) (wd z m') n) : AW mX10_hour Q 0 (am_ent (am_l mX10_hour) [.ref 37]) [] (wd z m) n 0 0 := by
  show AW _ _ 0 [some (.ref 37)] [] _ _ 0 0
  obtain ⟨hg, hfd, hf3, hf0, hns, hn7, hmr, hwi, hw4, hfr, hr1, hhr, hh⟩ := id hC
  refine r_aload_n 1 rfl 0 dX10_hour_0 rfl rfl ?_
  refine q_V 4 0 0 rfl [] rfl dX10_hour_1 cl_X10_hour__X10_lacks (lk_X10_109 rfl) im_X10_lacks (ci := 10) rfl sl_X10__X10_lacks rfl (Nat.le_of_ble_eq_true rfl) (fun _ _ => Nat.le_of_ble_eq_true rfl) rfl rfl (Nat.le_of_ble_eq_true rfl) (Nat.le_of_ble_eq_true rfl) ?_
  refine c_lacks_f hfd hf1 hf3 (k_i ?_)
  refine r_if_eq 7 10 rfl dX10_hour_4 rfl (fun _ => ?_) (fun q__ => absurd (by decide) q__)
  refine r_aload_n 11 rfl 0 dX10_hour_10 rfl rfl ?_
  refine q_V 14 0 0 rfl [] rfl dX10_hour_11 cl_X10_hour__X10_ends (lk_X10_173 rfl) im_X10_ends (ci := 10) rfl sl_X10__X10_ends rfl (Nat.le_of_ble_eq_true rfl) (fun _ _ => Nat.le_of_ble_eq_true rfl) rfl rfl (Nat.le_of_ble_eq_true rfl) (Nat.le_of_ble_eq_true rfl) ?_
  refine c_ends hC hB (fun m' hC' h42 h37 hag => (k_v ?_))
  have hh2 : m' 37 5 = nI (D 7 3 + 1) := hC'.2.2.2.2.2.2.2.2.2.2.2.1
  refine r_aload_n 15 rfl 0 dX10_hour_14 rfl rfl ?_
  refine r_getf (v := .int ((m' 37) 5)) (k := 5) 18 rfl dX10_hour_15 (gf_X10_92_10 rfl) rfl rfl ?_
  rw [show (m' 37) 5 = nI (D 7 3 + 1) from hh2]
  refine r_ireturn rfl dX10_hour_18 (Nat.le_of_ble_eq_true rfl) (Nat.le_of_ble_eq_true rfl) ?_
  exact k m' hC' h42 h37 hag
