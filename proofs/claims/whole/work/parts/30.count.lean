def bu_n (f : Nat → Nat) : Nat → Nat
  | 0 => 0
  | k + 1 => bu_n f k + f k
theorem bu_n_le {f : Nat → Nat} : ∀ k, (∀ j, j < k → f j ≤ 1) → bu_n f k ≤ k
  | 0, _ => Nat.le_refl 0
  | k + 1, h => by
    unfold bu_n
    have := bu_n_le k (fun j hj => h j (by omega))
    have := h k (by omega)
    omega
def TA (D : Nat → Nat → Nat) (t : Nat → Int32) (w : Nat) : Int32 := if w = 0 then nI (opn D) else if w = 1 then nI (D 7 0) else if w = 2 then nI (D 7 1) else if w = 3 then nI (bu_n (D 5) (D 7 1)) else if w = 4 then nI (D 7 2) else if w = 5 then nI (D 7 4) else if w = 6 then nI (D 7 3) else if w = 7 then t 0 else if w = 8 then t 1 else if w = 9 then t 2 else if w = 10 then nI (co_n (WH D) 8) else if w = 11 then nI (D 8 1) else if w = 12 then nI (D 8 0) else if w = 13 then nI (D 8 2) else if w = 14 then nI (D 8 3) else nI (D 8 4)

set_option maxHeartbeats 4000000 in
set_option maxRecDepth 20000 in
theorem lp_opens {Q : am_P} {z : am_Z} {m : Nat → Nat → Int32} {n : Nat} {D : Nat → Nat → Nat} (hC : C10 m D) (hf1 : 1 ≤ D 7 0) (k : Q (some (.int (nI (cnt0 (fun j => nI (D 0 j)) 8)))) (wd z m) n) : ∀ (d c : Nat), c + d = 8 → AW mX10_opens Q 4 [some (.ref 37), some (.int (nI (cnt0 (fun j => nI (D 0 j)) c))), some (.int (nI c))] [] (wd z m) n 0 0 := by
  obtain ⟨hg, hfd, hf3, hf0, hns, hn7, hmr, hwi, hw4, hfr, hr1, hhr, hh⟩ := id hC
  intro d
  induction d with
  | zero =>
    intro c hc
    obtain rfl : c = 8 := by omega
    refine r_iload_n 5 rfl 2 dX10_opens_4 rfl rfl ?_
    refine r_bipush 7 rfl 8 dX10_opens_5 (by decide) ?_
    refine r_icmp_ge 10 40 rfl dX10_opens_7 rfl (fun _ => ?_) (fun q__ => absurd ((nI_leI (a := 8) (b := 8) (by omega) (by omega)).mpr (by omega)) q__)
    refine r_iload_n 41 rfl 1 dX10_opens_40 rfl rfl ?_
    refine r_ireturn rfl dX10_opens_41 (Nat.le_of_ble_eq_true rfl) (Nat.le_of_ble_eq_true rfl) ?_
    exact k
  | succ d ih =>
    intro c hc
    obtain ⟨g1, g2⟩ := hg c (by omega)
    have hb := cnt0_le (fun j => nI (D 0 j)) c
    have e1 : cnt0 (fun j => nI (D 0 j)) (c + 1) = cnt0 (fun j => nI (D 0 j)) c + (if nI (D 0 c) = 0 then 1 else 0) := rfl
    refine r_iload_n 5 rfl 2 dX10_opens_4 rfl rfl ?_
    refine r_bipush 7 rfl 8 dX10_opens_5 (by decide) ?_
    refine r_icmp_ge 10 40 rfl dX10_opens_7 rfl (fun q__ => absurd q__ (fun q__ => absurd ((nI_leI (a := 8) (b := c) (by omega) (by omega)).mp q__) (by omega))) (fun _ => ?_)
    refine r_aload_n 11 rfl 0 dX10_opens_10 rfl rfl ?_
    refine r_getf (v := .int ((m 37) 2)) (k := 2) 14 rfl dX10_opens_11 (gf_X10_83_10 rfl) rfl rfl ?_
    rw [show (m 37) 2 = nI (D 7 0) from hfd]
    refine r_if_le 17 40 rfl dX10_opens_14 rfl (fun q__ => absurd q__ (fun q__ => absurd ((nI_leI (a := (D 7 0)) (b := 0) (by omega) (by omega)).mp q__) (by omega))) (fun _ => ?_)
    refine r_iload_n 18 rfl 1 dX10_opens_17 rfl rfl ?_
    refine r_aload_n 19 rfl 0 dX10_opens_18 rfl rfl ?_
    refine r_getf (v := .ref 39) (k := 7) 22 rfl dX10_opens_19 (gf_X10_13_10 rfl) rfl rfl ?_
    refine r_iload_n 23 rfl 2 dX10_opens_22 rfl rfl ?_
    refine r_iald (f := m 39) 24 rfl c dX10_opens_23 rfl rfl (by omega) (by decide) ?_
    rw [show (m 39) c = nI (D 0 c) from g1]
    refine r_if_ne 27 31 rfl dX10_opens_24 rfl (fun c24 => ?_) (fun c24 => ?_)
    · rw [if_neg c24] at e1
      refine r_iconst 32 rfl 0 dX10_opens_31 rfl ?_
      refine r_iadd 33 rfl dX10_opens_32 ?_
      rw [show (nI (cnt0 (fun j => nI (D 0 j)) c)) + 0 = nI ((cnt0 (fun j => nI (D 0 j)) c) + 0) from nI_add (cnt0 (fun j => nI (D 0 j)) c) 0]
      refine r_istore_n 34 rfl 1 [some (.ref 37), some (.int (nI ((cnt0 (fun j => nI (D 0 j)) c) + 0))), some (.int (nI c))] dX10_opens_33 rfl (by decide) rfl ?_
      refine r_iinc 37 rfl (nI (c + 1)) [some (.ref 37), some (.int (nI ((cnt0 (fun j => nI (D 0 j)) c) + 0))), some (.int (nI (c + 1)))] dX10_opens_34 rfl (nI_1 _) (by decide) rfl ?_
      refine r_goto 4 dX10_opens_37 rfl ?_
      rw [show cnt0 (fun j => nI (D 0 j)) c + 0 = cnt0 (fun j => nI (D 0 j)) (c + 1) from e1.symm]
      exact ih (c + 1) (by omega)
    · rw [if_pos (c24)] at e1
      refine r_iconst 28 rfl 1 dX10_opens_27 rfl ?_
      refine r_goto 32 dX10_opens_28 rfl ?_
      refine r_iadd 33 rfl dX10_opens_32 ?_
      rw [show (nI (cnt0 (fun j => nI (D 0 j)) c)) + 1 = nI ((cnt0 (fun j => nI (D 0 j)) c) + 1) from nI_add (cnt0 (fun j => nI (D 0 j)) c) 1]
      refine r_istore_n 34 rfl 1 [some (.ref 37), some (.int (nI ((cnt0 (fun j => nI (D 0 j)) c) + 1))), some (.int (nI c))] dX10_opens_33 rfl (by decide) rfl ?_
      refine r_iinc 37 rfl (nI (c + 1)) [some (.ref 37), some (.int (nI ((cnt0 (fun j => nI (D 0 j)) c) + 1))), some (.int (nI (c + 1)))] dX10_opens_34 rfl (nI_1 _) (by decide) rfl ?_
      refine r_goto 4 dX10_opens_37 rfl ?_
      rw [show cnt0 (fun j => nI (D 0 j)) c + 1 = cnt0 (fun j => nI (D 0 j)) (c + 1) from e1.symm]
      exact ih (c + 1) (by omega)

set_option maxHeartbeats 4000000 in
set_option maxRecDepth 20000 in
theorem c_opens_t {Q : am_P} {z : am_Z} {m : Nat → Nat → Int32} {n : Nat} {D : Nat → Nat → Nat} (hC : C10 m D) (hf1 : 1 ≤ D 7 0) (k : Q (some (.int (nI (cnt0 (fun j => nI (D 0 j)) 8)))) (wd z m) n) : AW mX10_opens Q 0 (am_ent (am_l mX10_opens) [.ref 37]) [] (wd z m) n 0 0 := by
  show AW _ _ 0 [some (.ref 37), none, none] [] _ _ 0 0
  refine r_iconst 1 rfl 0 dX10_opens_0 rfl ?_
  refine r_istore_n 2 rfl 1 [some (.ref 37), some (.int 0), none] dX10_opens_1 rfl (by decide) rfl ?_
  refine r_iconst 3 rfl 0 dX10_opens_2 rfl ?_
  refine r_istore_n 4 rfl 2 [some (.ref 37), some (.int 0), some (.int 0)] dX10_opens_3 rfl (by decide) rfl ?_
  exact lp_opens hC hf1 k 8 0 rfl

set_option maxHeartbeats 4000000 in
set_option maxRecDepth 20000 in
theorem c_opens_f {Q : am_P} {z : am_Z} {m : Nat → Nat → Int32} {n : Nat} (hfd : m 37 2 = nI 0) (k : Q (some (.int 0)) (wd z m) n) : AW mX10_opens Q 0 (am_ent (am_l mX10_opens) [.ref 37]) [] (wd z m) n 0 0 := by
  show AW _ _ 0 [some (.ref 37), none, none] [] _ _ 0 0
  refine r_iconst 1 rfl 0 dX10_opens_0 rfl ?_
  refine r_istore_n 2 rfl 1 [some (.ref 37), some (.int 0), none] dX10_opens_1 rfl (by decide) rfl ?_
  refine r_iconst 3 rfl 0 dX10_opens_2 rfl ?_
  refine r_istore_n 4 rfl 2 [some (.ref 37), some (.int 0), some (.int 0)] dX10_opens_3 rfl (by decide) rfl ?_
  refine r_iload_n 5 rfl 2 dX10_opens_4 rfl rfl ?_
  refine r_bipush 7 rfl 8 dX10_opens_5 (by decide) ?_
  refine r_icmp_ge 10 40 rfl dX10_opens_7 rfl (fun q__ => absurd q__ (by decide)) (fun _ => ?_)
  refine r_aload_n 11 rfl 0 dX10_opens_10 rfl rfl ?_
  refine r_getf (v := .int ((m 37) 2)) (k := 2) 14 rfl dX10_opens_11 (gf_X10_83_10 rfl) rfl rfl ?_
  rw [show (m 37) 2 = nI 0 from hfd]
  refine r_if_le 17 40 rfl dX10_opens_14 rfl (fun _ => ?_) (fun q__ => absurd ((nI_leI (a := 0) (b := 0) (by omega) (by omega)).mpr (by omega)) q__)
  refine r_iload_n 41 rfl 1 dX10_opens_40 rfl rfl ?_
  refine r_ireturn rfl dX10_opens_41 (Nat.le_of_ble_eq_true rfl) (Nat.le_of_ble_eq_true rfl) ?_
  exact k

theorem c_opens {Q : am_P} {z : am_Z} {m : Nat → Nat → Int32} {n : Nat} {D : Nat → Nat → Nat} (hC : C10 m D) (k : Q (some (.int (nI (opn D)))) (wd z m) n) : AW mX10_opens Q 0 (am_ent (am_l mX10_opens) [.ref 37]) [] (wd z m) n 0 0 := by
  unfold opn at k
  by_cases hf : D 7 0 = 0
  · rw [if_pos hf] at k
    exact c_opens_f (by rw [hC.2.1, hf]) k
  · rw [if_neg hf] at k
    exact c_opens_t hC (by omega) k

set_option maxHeartbeats 4000000 in
set_option maxRecDepth 20000 in
theorem lp_cb {Q : am_P} {z : am_Z} {m : Nat → Nat → Int32} {n : Nat} {D : Nat → Nat → Nat} (hC : C9 z m D) (k : Q (some (.int (nI (bu_n (D 5) (D 7 1))))) (wd z m) n) : ∀ (d c : Nat), c + d = D 7 1 → AW mX5_countBurning Q 4 [some (.ref 7), some (.int (nI (bu_n (D 5) c))), some (.int (nI c))] [] (wd z m) n 0 0 := by
  obtain ⟨hg, hfd, hf3, hf0, hns, hn6, hsd, hsb, hwi, hw4, hfr, hr1, hhr, hh⟩ := id hC
  intro d
  induction d with
  | zero =>
    intro c hc
    obtain rfl : c = D 7 1 := by omega
    refine r_iload_n 5 rfl 2 dX5_countBurning_4 rfl rfl ?_
    refine r_aload_n 6 rfl 0 dX5_countBurning_5 rfl rfl ?_
    refine r_getf (v := .int ((m 7) 0)) (k := 0) 9 rfl dX5_countBurning_6 (gf_X5_31_5 rfl) rfl rfl ?_
    rw [show (m 7) 0 = nI (D 7 1) from hns]
    refine r_icmp_ge 12 30 rfl dX5_countBurning_9 rfl (fun _ => ?_) (fun q__ => absurd ((nI_leI (a := (D 7 1)) (b := (D 7 1)) (by omega) (by omega)).mpr (by omega)) q__)
    refine r_iload_n 31 rfl 1 dX5_countBurning_30 rfl rfl ?_
    refine r_ireturn rfl dX5_countBurning_31 (Nat.le_of_ble_eq_true rfl) (Nat.le_of_ble_eq_true rfl) ?_
    exact k
  | succ d ih =>
    intro c hc
    obtain ⟨b1, b2, b3, b4⟩ := hsb c (by omega)
    have hb := bu_n_le (f := D 5) c (fun j hj => (hsb j (by omega)).2.1)
    have e1 : bu_n (D 5) (c + 1) = bu_n (D 5) c + D 5 c := rfl
    refine r_iload_n 5 rfl 2 dX5_countBurning_4 rfl rfl ?_
    refine r_aload_n 6 rfl 0 dX5_countBurning_5 rfl rfl ?_
    refine r_getf (v := .int ((m 7) 0)) (k := 0) 9 rfl dX5_countBurning_6 (gf_X5_31_5 rfl) rfl rfl ?_
    rw [show (m 7) 0 = nI (D 7 1) from hns]
    refine r_icmp_ge 12 30 rfl dX5_countBurning_9 rfl (fun q__ => absurd q__ (fun q__ => absurd ((nI_leI (a := (D 7 1)) (b := c) (by omega) (by omega)).mp q__) (by omega))) (fun _ => ?_)
    refine r_aload_n 13 rfl 0 dX5_countBurning_12 rfl rfl ?_
    refine r_getf (v := .ref 8) (k := 1) 16 rfl dX5_countBurning_13 (gf_X5_9_5 rfl) rfl rfl ?_
    refine r_iload_n 17 rfl 2 dX5_countBurning_16 rfl rfl ?_
    refine r_zald (f := m 8) 18 rfl c dX5_countBurning_17 (by decide) rfl rfl (by omega) (by decide) ?_
    rw [show (m 8) c = nI (D 5 c) from b1]
    refine r_if_eq 21 24 rfl dX5_countBurning_18 rfl (fun c18 => ?_) (fun c18 => ?_)
    · replace c18 : D 5 c = 0 := (nI_eq (a := (D 5 c)) (b := 0) (by omega) (by omega)).mp c18
      have hd : D 5 c = 0 := by omega
      refine r_iinc 27 rfl (nI (c + 1)) [some (.ref 7), some (.int (nI (bu_n (D 5) c))), some (.int (nI (c + 1)))] dX5_countBurning_24 rfl (nI_1 _) (by decide) rfl ?_
      refine r_goto 4 dX5_countBurning_27 rfl ?_
      rw [hd] at e1
      rw [show bu_n (D 5) c = bu_n (D 5) (c + 1) from e1.symm]
      exact ih (c + 1) (by omega)
    · replace c18 : ¬ (D 5 c) = 0 := fun q__ => c18 ((nI_eq (a := (D 5 c)) (b := 0) (by omega) (by omega)).mpr q__)
      have hd : D 5 c = 1 := by omega
      refine r_iinc 24 rfl (nI ((bu_n (D 5) c) + 1)) [some (.ref 7), some (.int (nI ((bu_n (D 5) c) + 1))), some (.int (nI c))] dX5_countBurning_21 rfl (nI_1 _) (by decide) rfl ?_
      refine r_iinc 27 rfl (nI (c + 1)) [some (.ref 7), some (.int (nI ((bu_n (D 5) c) + 1))), some (.int (nI (c + 1)))] dX5_countBurning_24 rfl (nI_1 _) (by decide) rfl ?_
      refine r_goto 4 dX5_countBurning_27 rfl ?_
      rw [hd] at e1
      rw [show bu_n (D 5) c + 1 = bu_n (D 5) (c + 1) from e1.symm]
      exact ih (c + 1) (by omega)

set_option maxHeartbeats 4000000 in
set_option maxRecDepth 20000 in
theorem c_countBurning {Q : am_P} {z : am_Z} {m : Nat → Nat → Int32} {n : Nat} {D : Nat → Nat → Nat} (hC : C9 z m D) (k : Q (some (.int (nI (bu_n (D 5) (D 7 1))))) (wd z m) n) : AW mX5_countBurning Q 0 (am_ent (am_l mX5_countBurning) [.ref 7]) [] (wd z m) n 0 0 := by
  show AW _ _ 0 [some (.ref 7), none, none] [] _ _ 0 0
  refine r_iconst 1 rfl 0 dX5_countBurning_0 rfl ?_
  refine r_istore_n 2 rfl 1 [some (.ref 7), some (.int 0), none] dX5_countBurning_1 rfl (by decide) rfl ?_
  refine r_iconst 3 rfl 0 dX5_countBurning_2 rfl ?_
  refine r_istore_n 4 rfl 2 [some (.ref 7), some (.int 0), some (.int 0)] dX5_countBurning_3 rfl (by decide) rfl ?_
  exact lp_cb hC k (D 7 1) 0 (by omega)

set_option maxHeartbeats 4000000 in
set_option maxRecDepth 20000 in
theorem lp_bu {Q : am_P} {z : am_Z} {m : Nat → Nat → Int32} {n : Nat} {D : Nat → Nat → Nat} (hC : C10 m D) (k : Q (some (.int (nI (bu_n (D 5) (D 7 1))))) (wd z m) n) : ∀ (d c : Nat), c + d = D 7 1 → AW mX10_burning Q 4 [some (.ref 37), some (.int (nI (bu_n (D 5) c))), some (.int (nI c))] [] (wd z m) n 0 0 := by
  obtain ⟨hg, hfd, hf3, hf0, hns, hn7, hmr, hwi, hw4, hfr, hr1, hhr, hh⟩ := id hC
  intro d
  induction d with
  | zero =>
    intro c hc
    obtain rfl : c = D 7 1 := by omega
    refine r_iload_n 5 rfl 2 dX10_burning_4 rfl rfl ?_
    refine r_aload_n 6 rfl 0 dX10_burning_5 rfl rfl ?_
    refine r_getf (v := .int ((m 37) 10)) (k := 10) 9 rfl dX10_burning_6 (gf_X10_95_10 rfl) rfl rfl ?_
    rw [show (m 37) 10 = nI (D 7 1) from hns]
    refine r_icmp_ge 12 32 rfl dX10_burning_9 rfl (fun _ => ?_) (fun q__ => absurd ((nI_leI (a := (D 7 1)) (b := (D 7 1)) (by omega) (by omega)).mpr (by omega)) q__)
    refine r_iload_n 33 rfl 1 dX10_burning_32 rfl rfl ?_
    refine r_ireturn rfl dX10_burning_33 (Nat.le_of_ble_eq_true rfl) (Nat.le_of_ble_eq_true rfl) ?_
    exact k
  | succ d ih =>
    intro c hc
    obtain ⟨⟨e0, e1, e2, e3, e4, e5⟩, q1, q2, q3, q4, q5, q6⟩ := hmr c (by omega)
    have hb := bu_n_le (f := D 5) c (fun j hj => (hmr j (by omega)).2.2.2.2.2.1)
    have f1 : bu_n (D 5) (c + 1) = bu_n (D 5) c + D 5 c := rfl
    refine r_iload_n 5 rfl 2 dX10_burning_4 rfl rfl ?_
    refine r_aload_n 6 rfl 0 dX10_burning_5 rfl rfl ?_
    refine r_getf (v := .int ((m 37) 10)) (k := 10) 9 rfl dX10_burning_6 (gf_X10_95_10 rfl) rfl rfl ?_
    rw [show (m 37) 10 = nI (D 7 1) from hns]
    refine r_icmp_ge 12 32 rfl dX10_burning_9 rfl (fun q__ => absurd q__ (fun q__ => absurd ((nI_leI (a := (D 7 1)) (b := c) (by omega) (by omega)).mp q__) (by omega))) (fun _ => ?_)
    refine r_iload_n 13 rfl 1 dX10_burning_12 rfl rfl ?_
    refine r_aload_n 14 rfl 0 dX10_burning_13 rfl rfl ?_
    refine r_getf (v := .ref 42) (k := 11) 17 rfl dX10_burning_14 (gf_X10_22_10 rfl) rfl rfl ?_
    refine r_bipush 19 rfl 6 dX10_burning_17 (by decide) ?_
    refine r_iload_n 20 rfl 2 dX10_burning_19 rfl rfl ?_
    refine r_imul 21 rfl dX10_burning_20 ?_
    rw [show 6 * (nI c) = nI (6 * c) from pk_mul 6 c]
    refine r_iconst 22 rfl 4 dX10_burning_21 rfl ?_
    refine r_iadd 23 rfl dX10_burning_22 ?_
    rw [show (nI (6 * c)) + 4 = nI ((6 * c) + 4) from nI_add (6 * c) 4]
    refine r_iald (f := m 42) 24 rfl ((6 * c) + 4) dX10_burning_23 rfl rfl (by omega) (by decide) ?_
    rw [show (m 42) ((6 * c) + 4) = nI (D 5 c) from e4]
    refine r_iadd 25 rfl dX10_burning_24 ?_
    rw [show (nI (bu_n (D 5) c)) + (nI (D 5 c)) = nI ((bu_n (D 5) c) + (D 5 c)) from nI_add (bu_n (D 5) c) (D 5 c)]
    refine r_istore_n 26 rfl 1 [some (.ref 37), some (.int (nI ((bu_n (D 5) c) + (D 5 c)))), some (.int (nI c))] dX10_burning_25 rfl (by decide) rfl ?_
    refine r_iinc 29 rfl (nI (c + 1)) [some (.ref 37), some (.int (nI ((bu_n (D 5) c) + (D 5 c)))), some (.int (nI (c + 1)))] dX10_burning_26 rfl (nI_1 _) (by decide) rfl ?_
    refine r_goto 4 dX10_burning_29 rfl ?_
    exact ih (c + 1) (by omega)

set_option maxHeartbeats 4000000 in
set_option maxRecDepth 20000 in
theorem c_burning {Q : am_P} {z : am_Z} {m : Nat → Nat → Int32} {n : Nat} {D : Nat → Nat → Nat} (hC : C10 m D) (k : Q (some (.int (nI (bu_n (D 5) (D 7 1))))) (wd z m) n) : AW mX10_burning Q 0 (am_ent (am_l mX10_burning) [.ref 37]) [] (wd z m) n 0 0 := by
  show AW _ _ 0 [some (.ref 37), none, none] [] _ _ 0 0
  refine r_iconst 1 rfl 0 dX10_burning_0 rfl ?_
  refine r_istore_n 2 rfl 1 [some (.ref 37), some (.int 0), none] dX10_burning_1 rfl (by decide) rfl ?_
  refine r_iconst 3 rfl 0 dX10_burning_2 rfl ?_
  refine r_istore_n 4 rfl 2 [some (.ref 37), some (.int 0), some (.int 0)] dX10_burning_3 rfl (by decide) rfl ?_
  exact lp_bu hC k (D 7 1) 0 (by omega)

set_option maxHeartbeats 4000000 in
set_option maxRecDepth 20000 in
theorem lp_so {Q : am_P} {z : am_Z} {m : Nat → Nat → Int32} {n : Nat} {D : Nat → Nat → Nat} (hC : C10 m D) (hM : MIR m D) (k : Q (some (.int (nI (co_n (WH D) 8)))) (wd z m) n) : ∀ (d c : Nat), c + d = 8 → AW mX10_somebodys Q 8 [some (.ref 37), some (.int (nI (co_n (WH D) c))), some (.int (nI c))] [] (wd z m) n 0 0 := by
  obtain ⟨hg, hfd, hf3, hf0, hns, hn7, hmr, hwi, hw4, hfr, hr1, hhr, hh⟩ := id hC
  intro d
  induction d with
  | zero =>
    intro c hc
    obtain rfl : c = 8 := by omega
    refine r_iload_n 9 rfl 2 dX10_somebodys_8 rfl rfl ?_
    refine r_bipush 11 rfl 8 dX10_somebodys_9 (by decide) ?_
    refine r_icmp_ge 14 38 rfl dX10_somebodys_11 rfl (fun _ => ?_) (fun q__ => absurd ((nI_leI (a := 8) (b := 8) (by omega) (by omega)).mpr (by omega)) q__)
    refine r_iload_n 39 rfl 1 dX10_somebodys_38 rfl rfl ?_
    refine r_ireturn rfl dX10_somebodys_39 (Nat.le_of_ble_eq_true rfl) (Nat.le_of_ble_eq_true rfl) ?_
    exact k
  | succ d ih =>
    intro c hc
    have hb := co_n_le (WH D) c
    have e44 : m 44 c = BY D c := (hM c (by omega)).2
    have hbw := BY_WH D (by omega) (fun s hs => (hmr s hs).2.2.1) c
    have e1 : co_n (WH D) (c + 1) = co_n (WH D) c + (if WH D c = -1 then 0 else 1) := rfl
    refine r_iload_n 9 rfl 2 dX10_somebodys_8 rfl rfl ?_
    refine r_bipush 11 rfl 8 dX10_somebodys_9 (by decide) ?_
    refine r_icmp_ge 14 38 rfl dX10_somebodys_11 rfl (fun q__ => absurd q__ (fun q__ => absurd ((nI_leI (a := 8) (b := c) (by omega) (by omega)).mp q__) (by omega))) (fun _ => ?_)
    refine r_iload_n 15 rfl 1 dX10_somebodys_14 rfl rfl ?_
    refine r_aload_n 16 rfl 0 dX10_somebodys_15 rfl rfl ?_
    refine r_getf (v := .ref 44) (k := 13) 19 rfl dX10_somebodys_16 (gf_X10_28_10 rfl) rfl rfl ?_
    refine r_iload_n 20 rfl 2 dX10_somebodys_19 rfl rfl ?_
    refine r_iald (f := m 44) 21 rfl c dX10_somebodys_20 rfl rfl (by omega) (by decide) ?_
    rw [show (m 44) c = BY D c from e44]
    refine r_iconst 22 rfl (-1) dX10_somebodys_21 rfl ?_
    refine r_icmp_ne 25 29 rfl dX10_somebodys_22 rfl (fun c22 => ?_) (fun c22 => ?_)
    · rw [if_neg (fun q => c22 (hbw.mpr q))] at e1
      refine r_iconst 30 rfl 1 dX10_somebodys_29 rfl ?_
      refine r_iadd 31 rfl dX10_somebodys_30 ?_
      rw [show (nI (co_n (WH D) c)) + 1 = nI ((co_n (WH D) c) + 1) from nI_add (co_n (WH D) c) 1]
      refine r_istore_n 32 rfl 1 [some (.ref 37), some (.int (nI ((co_n (WH D) c) + 1))), some (.int (nI c))] dX10_somebodys_31 rfl (by decide) rfl ?_
      refine r_iinc 35 rfl (nI (c + 1)) [some (.ref 37), some (.int (nI ((co_n (WH D) c) + 1))), some (.int (nI (c + 1)))] dX10_somebodys_32 rfl (nI_1 _) (by decide) rfl ?_
      refine r_goto 8 dX10_somebodys_35 rfl ?_
      rw [show co_n (WH D) c + 1 = co_n (WH D) (c + 1) from e1.symm]
      exact ih (c + 1) (by omega)
    · rw [if_pos (hbw.mp c22)] at e1
      refine r_iconst 26 rfl 0 dX10_somebodys_25 rfl ?_
      refine r_goto 30 dX10_somebodys_26 rfl ?_
      refine r_iadd 31 rfl dX10_somebodys_30 ?_
      rw [show (nI (co_n (WH D) c)) + 0 = nI ((co_n (WH D) c) + 0) from nI_add (co_n (WH D) c) 0]
      refine r_istore_n 32 rfl 1 [some (.ref 37), some (.int (nI ((co_n (WH D) c) + 0))), some (.int (nI c))] dX10_somebodys_31 rfl (by decide) rfl ?_
      refine r_iinc 35 rfl (nI (c + 1)) [some (.ref 37), some (.int (nI ((co_n (WH D) c) + 0))), some (.int (nI (c + 1)))] dX10_somebodys_32 rfl (nI_1 _) (by decide) rfl ?_
      refine r_goto 8 dX10_somebodys_35 rfl ?_
      rw [show co_n (WH D) c + 0 = co_n (WH D) (c + 1) from e1.symm]
      exact ih (c + 1) (by omega)

set_option maxHeartbeats 4000000 in
set_option maxRecDepth 20000 in
theorem c_somebodys {Q : am_P} {z : am_Z} {m : Nat → Nat → Int32} {n : Nat} {D : Nat → Nat → Nat} (hC : C10 m D) (k : ∀ m', ag [43, 44, 45] m m' → Q (some (.int (nI (co_n (WH D) 8)))) (wd z m') n) : AW mX10_somebodys Q 0 (am_ent (am_l mX10_somebodys) [.ref 37]) [] (wd z m) n 0 0 := by
  show AW _ _ 0 [some (.ref 37), none, none] [] _ _ 0 0
  refine r_aload_n 1 rfl 0 dX10_somebodys_0 rfl rfl ?_
  refine q_V 4 0 0 rfl [] rfl dX10_somebodys_1 cl_X10_somebodys__X10_layCells (lk_X10_149 rfl) im_X10_layCells (ci := 10) rfl sl_X10__X10_layCells rfl (Nat.le_of_ble_eq_true rfl) (fun _ _ => Nat.le_of_ble_eq_true rfl) rfl rfl (Nat.le_of_ble_eq_true rfl) (Nat.le_of_ble_eq_true rfl) ?_
  refine c_layC hC (fun m' hM hag => (k_v ?_))
  refine r_iconst 5 rfl 0 dX10_somebodys_4 rfl ?_
  refine r_istore_n 6 rfl 1 [some (.ref 37), some (.int 0), none] dX10_somebodys_5 rfl (by decide) rfl ?_
  refine r_iconst 7 rfl 0 dX10_somebodys_6 rfl ?_
  refine r_istore_n 8 rfl 2 [some (.ref 37), some (.int 0), some (.int 0)] dX10_somebodys_7 rfl (by decide) rfl ?_
  exact lp_so (C10_ag hC hag (by decide)) hM (k m' hag) 8 0 rfl

set_option maxHeartbeats 4000000 in
set_option maxRecDepth 20000 in
theorem c_toa_0 {Q : am_P} {z : am_Z} {m : Nat → Nat → Int32} {n : Nat} {i : Nat} {D K : Nat → Nat → Nat} (hI : IV i z m n D K) (hA : AIR m D) (k : Q (some (.int (nI (opn D)))) (wd z m) n) : AW mX9_tellOfAll Q 0 (am_ent (am_l mX9_tellOfAll) [.ref 1, .int 0]) [] (wd z m) n 0 0 := by
  show AW _ _ 0 [some (.ref 1), some (.int 0)] [] _ _ 0 0
  obtain ⟨h9, h10, hnz, hpg, hop, hnw, hct, him⟩ := id hI
  obtain ⟨hg, hfd, hf3, hf0, hns, hn6, hsd, hsb, hwi, hw4, hfr, hr1, hhr, hh⟩ := id h9
  refine r_iload_n 1 rfl 1 dX9_tellOfAll_0 rfl rfl ?_
  refine r_tabIn 76 dX9_tellOfAll_1 (by decide) (by decide) rfl rfl ?_
  refine r_aload_n 77 rfl 0 dX9_tellOfAll_76 rfl rfl ?_
  refine r_getf (v := .ref 4) (k := 1) 80 rfl dX9_tellOfAll_77 (gf_X9_19_9 rfl) rfl rfl ?_
  refine r_getf (v := .int ((m 4) 1)) (k := 1) 83 rfl dX9_tellOfAll_80 (gf_X9_96_7 rfl) rfl rfl ?_
  rw [show (m 4) 1 = nI (opn D) from hop]
  refine r_ireturn rfl dX9_tellOfAll_83 (Nat.le_of_ble_eq_true rfl) (Nat.le_of_ble_eq_true rfl) ?_
  exact k

set_option maxHeartbeats 4000000 in
set_option maxRecDepth 20000 in
theorem c_toa_1 {Q : am_P} {z : am_Z} {m : Nat → Nat → Int32} {n : Nat} {i : Nat} {D K : Nat → Nat → Nat} (hI : IV i z m n D K) (hA : AIR m D) (k : Q (some (.int (nI (D 7 0)))) (wd z m) n) : AW mX9_tellOfAll Q 0 (am_ent (am_l mX9_tellOfAll) [.ref 1, .int 1]) [] (wd z m) n 0 0 := by
  show AW _ _ 0 [some (.ref 1), some (.int 1)] [] _ _ 0 0
  obtain ⟨h9, h10, hnz, hpg, hop, hnw, hct, him⟩ := id hI
  obtain ⟨hg, hfd, hf3, hf0, hns, hn6, hsd, hsb, hwi, hw4, hfr, hr1, hhr, hh⟩ := id h9
  refine r_iload_n 1 rfl 1 dX9_tellOfAll_0 rfl rfl ?_
  refine r_tabIn 84 dX9_tellOfAll_1 (by decide) (by decide) rfl rfl ?_
  refine r_aload_n 85 rfl 0 dX9_tellOfAll_84 rfl rfl ?_
  refine r_getf (v := .ref 4) (k := 1) 88 rfl dX9_tellOfAll_85 (gf_X9_19_9 rfl) rfl rfl ?_
  refine r_getf (v := .int ((m 4) 2)) (k := 2) 91 rfl dX9_tellOfAll_88 (gf_X9_313_7 rfl) rfl rfl ?_
  rw [show (m 4) 2 = nI (D 7 0) from hfd]
  refine r_ireturn rfl dX9_tellOfAll_91 (Nat.le_of_ble_eq_true rfl) (Nat.le_of_ble_eq_true rfl) ?_
  exact k

set_option maxHeartbeats 4000000 in
set_option maxRecDepth 20000 in
theorem c_toa_2 {Q : am_P} {z : am_Z} {m : Nat → Nat → Int32} {n : Nat} {i : Nat} {D K : Nat → Nat → Nat} (hI : IV i z m n D K) (hA : AIR m D) (k : Q (some (.int (nI (D 7 1)))) (wd z m) n) : AW mX9_tellOfAll Q 0 (am_ent (am_l mX9_tellOfAll) [.ref 1, .int 2]) [] (wd z m) n 0 0 := by
  show AW _ _ 0 [some (.ref 1), some (.int 2)] [] _ _ 0 0
  obtain ⟨h9, h10, hnz, hpg, hop, hnw, hct, him⟩ := id hI
  obtain ⟨hg, hfd, hf3, hf0, hns, hn6, hsd, hsb, hwi, hw4, hfr, hr1, hhr, hh⟩ := id h9
  refine r_iload_n 1 rfl 1 dX9_tellOfAll_0 rfl rfl ?_
  refine r_tabIn 92 dX9_tellOfAll_1 (by decide) (by decide) rfl rfl ?_
  refine r_aload_n 93 rfl 0 dX9_tellOfAll_92 rfl rfl ?_
  refine r_getf (v := .ref 7) (k := 3) 96 rfl dX9_tellOfAll_93 (gf_X9_32_9 rfl) rfl rfl ?_
  refine r_getf (v := .int ((m 7) 0)) (k := 0) 99 rfl dX9_tellOfAll_96 (gf_X9_119_5 rfl) rfl rfl ?_
  rw [show (m 7) 0 = nI (D 7 1) from hns]
  refine r_ireturn rfl dX9_tellOfAll_99 (Nat.le_of_ble_eq_true rfl) (Nat.le_of_ble_eq_true rfl) ?_
  exact k

set_option maxHeartbeats 4000000 in
set_option maxRecDepth 20000 in
theorem c_toa_3 {Q : am_P} {z : am_Z} {m : Nat → Nat → Int32} {n : Nat} {i : Nat} {D K : Nat → Nat → Nat} (hI : IV i z m n D K) (hA : AIR m D) (k : Q (some (.int (nI (bu_n (D 5) (D 7 1))))) (wd z m) n) : AW mX9_tellOfAll Q 0 (am_ent (am_l mX9_tellOfAll) [.ref 1, .int 3]) [] (wd z m) n 0 0 := by
  show AW _ _ 0 [some (.ref 1), some (.int 3)] [] _ _ 0 0
  obtain ⟨h9, h10, hnz, hpg, hop, hnw, hct, him⟩ := id hI
  obtain ⟨hg, hfd, hf3, hf0, hns, hn6, hsd, hsb, hwi, hw4, hfr, hr1, hhr, hh⟩ := id h9
  refine r_iload_n 1 rfl 1 dX9_tellOfAll_0 rfl rfl ?_
  refine r_tabIn 100 dX9_tellOfAll_1 (by decide) (by decide) rfl rfl ?_
  refine r_aload_n 101 rfl 0 dX9_tellOfAll_100 rfl rfl ?_
  refine r_getf (v := .ref 7) (k := 3) 104 rfl dX9_tellOfAll_101 (gf_X9_32_9 rfl) rfl rfl ?_
  refine q_V 107 0 0 rfl [] rfl dX9_tellOfAll_104 cl_X9_tellOfAll__X5_countBurning (lk_X9_316 rfl) im_X5_countBurning (ci := 5) rfl sl_X5__X5_countBurning rfl (Nat.le_of_ble_eq_true rfl) (fun _ _ => Nat.le_of_ble_eq_true rfl) rfl rfl (Nat.le_of_ble_eq_true rfl) (Nat.le_of_ble_eq_true rfl) ?_
  refine c_countBurning h9 (k_i ?_)
  refine r_ireturn rfl dX9_tellOfAll_107 (Nat.le_of_ble_eq_true rfl) (Nat.le_of_ble_eq_true rfl) ?_
  exact k

set_option maxHeartbeats 4000000 in
set_option maxRecDepth 20000 in
theorem c_toa_4 {Q : am_P} {z : am_Z} {m : Nat → Nat → Int32} {n : Nat} {i : Nat} {D K : Nat → Nat → Nat} (hI : IV i z m n D K) (hA : AIR m D) (k : Q (some (.int (nI (D 7 2)))) (wd z m) n) : AW mX9_tellOfAll Q 0 (am_ent (am_l mX9_tellOfAll) [.ref 1, .int 4]) [] (wd z m) n 0 0 := by
  show AW _ _ 0 [some (.ref 1), some (.int 4)] [] _ _ 0 0
  obtain ⟨h9, h10, hnz, hpg, hop, hnw, hct, him⟩ := id hI
  obtain ⟨hg, hfd, hf3, hf0, hns, hn6, hsd, hsb, hwi, hw4, hfr, hr1, hhr, hh⟩ := id h9
  refine r_iload_n 1 rfl 1 dX9_tellOfAll_0 rfl rfl ?_
  refine r_tabIn 108 dX9_tellOfAll_1 (by decide) (by decide) rfl rfl ?_
  refine r_aload_n 109 rfl 0 dX9_tellOfAll_108 rfl rfl ?_
  refine r_getf (v := .ref 7) (k := 3) 112 rfl dX9_tellOfAll_109 (gf_X9_32_9 rfl) rfl rfl ?_
  refine r_getf (v := .int ((m 7) 3)) (k := 3) 115 rfl dX9_tellOfAll_112 (gf_X9_153_5 rfl) rfl rfl ?_
  rw [show (m 7) 3 = nI (D 7 2) from hwi]
  refine r_ireturn rfl dX9_tellOfAll_115 (Nat.le_of_ble_eq_true rfl) (Nat.le_of_ble_eq_true rfl) ?_
  exact k

set_option maxHeartbeats 4000000 in
set_option maxRecDepth 20000 in
theorem c_toa_5 {Q : am_P} {z : am_Z} {m : Nat → Nat → Int32} {n : Nat} {i : Nat} {D K : Nat → Nat → Nat} (hI : IV i z m n D K) (hA : AIR m D) (k : Q (some (.int (nI (D 7 4)))) (wd z m) n) : AW mX9_tellOfAll Q 0 (am_ent (am_l mX9_tellOfAll) [.ref 1, .int 5]) [] (wd z m) n 0 0 := by
  show AW _ _ 0 [some (.ref 1), some (.int 5)] [] _ _ 0 0
  obtain ⟨h9, h10, hnz, hpg, hop, hnw, hct, him⟩ := id hI
  obtain ⟨hg, hfd, hf3, hf0, hns, hn6, hsd, hsb, hwi, hw4, hfr, hr1, hhr, hh⟩ := id h9
  refine r_iload_n 1 rfl 1 dX9_tellOfAll_0 rfl rfl ?_
  refine r_tabIn 116 dX9_tellOfAll_1 (by decide) (by decide) rfl rfl ?_
  refine r_aload_n 117 rfl 0 dX9_tellOfAll_116 rfl rfl ?_
  refine r_getf (v := .ref 7) (k := 3) 120 rfl dX9_tellOfAll_117 (gf_X9_32_9 rfl) rfl rfl ?_
  refine r_getf (v := .int ((m 7) 4)) (k := 4) 123 rfl dX9_tellOfAll_120 (gf_X9_174_5 rfl) rfl rfl ?_
  rw [show (m 7) 4 = nI (D 7 4) from hfr]
  refine q_S 126 0 0 rfl [.int (nI (D 7 4))] rfl dX9_tellOfAll_123 cl_X9_tellOfAll__X9_bit (lk_X9_167 rfl) st_X9_bit (Nat.le_of_ble_eq_true rfl) (fun _ _ => Nat.le_of_ble_eq_true rfl) rfl rfl (Nat.le_of_ble_eq_true rfl) (Nat.le_of_ble_eq_true rfl) ?_
  refine c_bit hr1 (k_i ?_)
  refine r_ireturn rfl dX9_tellOfAll_126 (Nat.le_of_ble_eq_true rfl) (Nat.le_of_ble_eq_true rfl) ?_
  exact k

set_option maxHeartbeats 4000000 in
set_option maxRecDepth 20000 in
theorem c_toa_6 {Q : am_P} {z : am_Z} {m : Nat → Nat → Int32} {n : Nat} {i : Nat} {D K : Nat → Nat → Nat} (hI : IV i z m n D K) (hA : AIR m D) (k : Q (some (.int (nI (D 7 3)))) (wd z m) n) : AW mX9_tellOfAll Q 0 (am_ent (am_l mX9_tellOfAll) [.ref 1, .int 6]) [] (wd z m) n 0 0 := by
  show AW _ _ 0 [some (.ref 1), some (.int 6)] [] _ _ 0 0
  obtain ⟨h9, h10, hnz, hpg, hop, hnw, hct, him⟩ := id hI
  obtain ⟨hg, hfd, hf3, hf0, hns, hn6, hsd, hsb, hwi, hw4, hfr, hr1, hhr, hh⟩ := id h9
  refine r_iload_n 1 rfl 1 dX9_tellOfAll_0 rfl rfl ?_
  refine r_tabIn 127 dX9_tellOfAll_1 (by decide) (by decide) rfl rfl ?_
  refine r_aload_n 128 rfl 0 dX9_tellOfAll_127 rfl rfl ?_
  refine r_getf (v := .ref 7) (k := 3) 131 rfl dX9_tellOfAll_128 (gf_X9_32_9 rfl) rfl rfl ?_
  refine r_getf (v := .int ((m 7) 5)) (k := 5) 134 rfl dX9_tellOfAll_131 (gf_X9_192_5 rfl) rfl rfl ?_
  rw [show (m 7) 5 = nI (D 7 3) from hhr]
  refine r_ireturn rfl dX9_tellOfAll_134 (Nat.le_of_ble_eq_true rfl) (Nat.le_of_ble_eq_true rfl) ?_
  exact k

set_option maxHeartbeats 4000000 in
set_option maxRecDepth 20000 in
theorem c_toa_7 {Q : am_P} {z : am_Z} {m : Nat → Nat → Int32} {n : Nat} {i : Nat} {D K : Nat → Nat → Nat} (hI : IV i z m n D K) (hA : AIR m D) (k : Q (some (.int (m 11 0))) (wd z m) n) : AW mX9_tellOfAll Q 0 (am_ent (am_l mX9_tellOfAll) [.ref 1, .int 7]) [] (wd z m) n 0 0 := by
  show AW _ _ 0 [some (.ref 1), some (.int 7)] [] _ _ 0 0
  obtain ⟨h9, h10, hnz, hpg, hop, hnw, hct, him⟩ := id hI
  obtain ⟨hg, hfd, hf3, hf0, hns, hn6, hsd, hsb, hwi, hw4, hfr, hr1, hhr, hh⟩ := id h9
  refine r_iload_n 1 rfl 1 dX9_tellOfAll_0 rfl rfl ?_
  refine r_tabIn 135 dX9_tellOfAll_1 (by decide) (by decide) rfl rfl ?_
  refine r_aload_n 136 rfl 0 dX9_tellOfAll_135 rfl rfl ?_
  refine r_getf (v := .ref 7) (k := 3) 139 rfl dX9_tellOfAll_136 (gf_X9_32_9 rfl) rfl rfl ?_
  refine r_getf (v := .ref 11) (k := 7) 142 rfl dX9_tellOfAll_139 (gf_X9_186_5 rfl) rfl rfl ?_
  refine r_iload_n 143 rfl 1 dX9_tellOfAll_142 rfl rfl ?_
  refine r_bipush 145 rfl 7 dX9_tellOfAll_143 (by decide) ?_
  refine r_isub 146 rfl dX9_tellOfAll_145 ?_
  refine r_iald (f := m 11) 147 rfl 0 dX9_tellOfAll_146 rfl (by decide) (by decide) (by decide) ?_
  refine r_ireturn rfl dX9_tellOfAll_147 (Nat.le_of_ble_eq_true rfl) (Nat.le_of_ble_eq_true rfl) ?_
  exact k

set_option maxHeartbeats 4000000 in
set_option maxRecDepth 20000 in
theorem c_toa_8 {Q : am_P} {z : am_Z} {m : Nat → Nat → Int32} {n : Nat} {i : Nat} {D K : Nat → Nat → Nat} (hI : IV i z m n D K) (hA : AIR m D) (k : Q (some (.int (m 11 1))) (wd z m) n) : AW mX9_tellOfAll Q 0 (am_ent (am_l mX9_tellOfAll) [.ref 1, .int 8]) [] (wd z m) n 0 0 := by
  show AW _ _ 0 [some (.ref 1), some (.int 8)] [] _ _ 0 0
  obtain ⟨h9, h10, hnz, hpg, hop, hnw, hct, him⟩ := id hI
  obtain ⟨hg, hfd, hf3, hf0, hns, hn6, hsd, hsb, hwi, hw4, hfr, hr1, hhr, hh⟩ := id h9
  refine r_iload_n 1 rfl 1 dX9_tellOfAll_0 rfl rfl ?_
  refine r_tabIn 135 dX9_tellOfAll_1 (by decide) (by decide) rfl rfl ?_
  refine r_aload_n 136 rfl 0 dX9_tellOfAll_135 rfl rfl ?_
  refine r_getf (v := .ref 7) (k := 3) 139 rfl dX9_tellOfAll_136 (gf_X9_32_9 rfl) rfl rfl ?_
  refine r_getf (v := .ref 11) (k := 7) 142 rfl dX9_tellOfAll_139 (gf_X9_186_5 rfl) rfl rfl ?_
  refine r_iload_n 143 rfl 1 dX9_tellOfAll_142 rfl rfl ?_
  refine r_bipush 145 rfl 7 dX9_tellOfAll_143 (by decide) ?_
  refine r_isub 146 rfl dX9_tellOfAll_145 ?_
  refine r_iald (f := m 11) 147 rfl 1 dX9_tellOfAll_146 rfl (by decide) (by decide) (by decide) ?_
  refine r_ireturn rfl dX9_tellOfAll_147 (Nat.le_of_ble_eq_true rfl) (Nat.le_of_ble_eq_true rfl) ?_
  exact k

set_option maxHeartbeats 4000000 in
set_option maxRecDepth 20000 in
theorem c_toa_9 {Q : am_P} {z : am_Z} {m : Nat → Nat → Int32} {n : Nat} {i : Nat} {D K : Nat → Nat → Nat} (hI : IV i z m n D K) (hA : AIR m D) (k : Q (some (.int (m 11 2))) (wd z m) n) : AW mX9_tellOfAll Q 0 (am_ent (am_l mX9_tellOfAll) [.ref 1, .int 9]) [] (wd z m) n 0 0 := by
  show AW _ _ 0 [some (.ref 1), some (.int 9)] [] _ _ 0 0
  obtain ⟨h9, h10, hnz, hpg, hop, hnw, hct, him⟩ := id hI
  obtain ⟨hg, hfd, hf3, hf0, hns, hn6, hsd, hsb, hwi, hw4, hfr, hr1, hhr, hh⟩ := id h9
  refine r_iload_n 1 rfl 1 dX9_tellOfAll_0 rfl rfl ?_
  refine r_tabIn 135 dX9_tellOfAll_1 (by decide) (by decide) rfl rfl ?_
  refine r_aload_n 136 rfl 0 dX9_tellOfAll_135 rfl rfl ?_
  refine r_getf (v := .ref 7) (k := 3) 139 rfl dX9_tellOfAll_136 (gf_X9_32_9 rfl) rfl rfl ?_
  refine r_getf (v := .ref 11) (k := 7) 142 rfl dX9_tellOfAll_139 (gf_X9_186_5 rfl) rfl rfl ?_
  refine r_iload_n 143 rfl 1 dX9_tellOfAll_142 rfl rfl ?_
  refine r_bipush 145 rfl 7 dX9_tellOfAll_143 (by decide) ?_
  refine r_isub 146 rfl dX9_tellOfAll_145 ?_
  refine r_iald (f := m 11) 147 rfl 2 dX9_tellOfAll_146 rfl (by decide) (by decide) (by decide) ?_
  refine r_ireturn rfl dX9_tellOfAll_147 (Nat.le_of_ble_eq_true rfl) (Nat.le_of_ble_eq_true rfl) ?_
  exact k

set_option maxHeartbeats 4000000 in
set_option maxRecDepth 20000 in
theorem c_toa_10 {Q : am_P} {z : am_Z} {m : Nat → Nat → Int32} {n : Nat} {i : Nat} {D K : Nat → Nat → Nat} (hI : IV i z m n D K) (hA : AIR m D) (k : Q (some (.int (nI (co_n (WH D) 8)))) (wd z m) n) : AW mX9_tellOfAll Q 0 (am_ent (am_l mX9_tellOfAll) [.ref 1, .int 10]) [] (wd z m) n 0 0 := by
  show AW _ _ 0 [some (.ref 1), some (.int 10)] [] _ _ 0 0
  obtain ⟨h9, h10, hnz, hpg, hop, hnw, hct, him⟩ := id hI
  obtain ⟨hg, hfd, hf3, hf0, hns, hn6, hsd, hsb, hwi, hw4, hfr, hr1, hhr, hh⟩ := id h9
  refine r_iload_n 1 rfl 1 dX9_tellOfAll_0 rfl rfl ?_
  refine r_tabIn 148 dX9_tellOfAll_1 (by decide) (by decide) rfl rfl ?_
  refine r_aload_n 149 rfl 0 dX9_tellOfAll_148 rfl rfl ?_
  refine r_getf (v := .ref 28) (k := 6) 152 rfl dX9_tellOfAll_149 (gf_X9_45_9 rfl) rfl rfl ?_
  refine q_V 155 0 0 rfl [] rfl dX9_tellOfAll_152 cl_X9_tellOfAll__X0_countOwned (lk_X9_319 rfl) im_X0_countOwned (ci := 0) rfl sl_X0__X0_countOwned rfl (Nat.le_of_ble_eq_true rfl) (fun _ _ => Nat.le_of_ble_eq_true rfl) rfl rfl (Nat.le_of_ble_eq_true rfl) (Nat.le_of_ble_eq_true rfl) ?_
  refine c_countOwned (fun j hj => (hA j hj).2.2) (k_i ?_)
  refine r_ireturn rfl dX9_tellOfAll_155 (Nat.le_of_ble_eq_true rfl) (Nat.le_of_ble_eq_true rfl) ?_
  exact k

set_option maxHeartbeats 4000000 in
set_option maxRecDepth 20000 in
theorem c_toa_11 {Q : am_P} {z : am_Z} {m : Nat → Nat → Int32} {n : Nat} {i : Nat} {D K : Nat → Nat → Nat} (hI : IV i z m n D K) (hA : AIR m D) (k : Q (some (.int (nI (D 8 1)))) (wd z m) n) : AW mX9_tellOfAll Q 0 (am_ent (am_l mX9_tellOfAll) [.ref 1, .int 11]) [] (wd z m) n 0 0 := by
  show AW _ _ 0 [some (.ref 1), some (.int 11)] [] _ _ 0 0
  obtain ⟨h9, h10, hnz, hpg, hop, hnw, hct, him⟩ := id hI
  obtain ⟨hg, hfd, hf3, hf0, hns, hn6, hsd, hsb, hwi, hw4, hfr, hr1, hhr, hh⟩ := id h9
  refine r_iload_n 1 rfl 1 dX9_tellOfAll_0 rfl rfl ?_
  refine r_tabIn 156 dX9_tellOfAll_1 (by decide) (by decide) rfl rfl ?_
  refine r_aload_n 157 rfl 0 dX9_tellOfAll_156 rfl rfl ?_
  refine r_getf (v := .ref 7) (k := 3) 160 rfl dX9_tellOfAll_157 (gf_X9_32_9 rfl) rfl rfl ?_
  refine r_getf (v := .int ((m 7) 8)) (k := 8) 163 rfl dX9_tellOfAll_160 (gf_X9_219_5 rfl) rfl rfl ?_
  rw [show (m 7) 8 = nI (D 8 1) from hnw.2.1]
  refine r_ireturn rfl dX9_tellOfAll_163 (Nat.le_of_ble_eq_true rfl) (Nat.le_of_ble_eq_true rfl) ?_
  exact k

set_option maxHeartbeats 4000000 in
set_option maxRecDepth 20000 in
theorem c_toa_12 {Q : am_P} {z : am_Z} {m : Nat → Nat → Int32} {n : Nat} {i : Nat} {D K : Nat → Nat → Nat} (hI : IV i z m n D K) (hA : AIR m D) (k : Q (some (.int (nI (D 8 0)))) (wd z m) n) : AW mX9_tellOfAll Q 0 (am_ent (am_l mX9_tellOfAll) [.ref 1, .int 12]) [] (wd z m) n 0 0 := by
  show AW _ _ 0 [some (.ref 1), some (.int 12)] [] _ _ 0 0
  obtain ⟨h9, h10, hnz, hpg, hop, hnw, hct, him⟩ := id hI
  obtain ⟨hg, hfd, hf3, hf0, hns, hn6, hsd, hsb, hwi, hw4, hfr, hr1, hhr, hh⟩ := id h9
  refine r_iload_n 1 rfl 1 dX9_tellOfAll_0 rfl rfl ?_
  refine r_tabIn 164 dX9_tellOfAll_1 (by decide) (by decide) rfl rfl ?_
  refine r_aload_n 165 rfl 0 dX9_tellOfAll_164 rfl rfl ?_
  refine r_getf (v := .ref 2) (k := 0) 168 rfl dX9_tellOfAll_165 (gf_X9_12_9 rfl) rfl rfl ?_
  refine r_getf (v := .int ((m 2) 1)) (k := 1) 171 rfl dX9_tellOfAll_168 (gf_X9_70_3 rfl) rfl rfl ?_
  rw [show (m 2) 1 = nI (D 8 0) from hpg.1]
  refine r_ireturn rfl dX9_tellOfAll_171 (Nat.le_of_ble_eq_true rfl) (Nat.le_of_ble_eq_true rfl) ?_
  exact k

set_option maxHeartbeats 4000000 in
set_option maxRecDepth 20000 in
theorem c_toa_13 {Q : am_P} {z : am_Z} {m : Nat → Nat → Int32} {n : Nat} {i : Nat} {D K : Nat → Nat → Nat} (hI : IV i z m n D K) (hA : AIR m D) (k : Q (some (.int (nI (D 8 2)))) (wd z m) n) : AW mX9_tellOfAll Q 0 (am_ent (am_l mX9_tellOfAll) [.ref 1, .int 13]) [] (wd z m) n 0 0 := by
  show AW _ _ 0 [some (.ref 1), some (.int 13)] [] _ _ 0 0
  obtain ⟨h9, h10, hnz, hpg, hop, hnw, hct, him⟩ := id hI
  obtain ⟨hg, hfd, hf3, hf0, hns, hn6, hsd, hsb, hwi, hw4, hfr, hr1, hhr, hh⟩ := id h9
  refine r_iload_n 1 rfl 1 dX9_tellOfAll_0 rfl rfl ?_
  refine r_tabIn 172 dX9_tellOfAll_1 (by decide) (by decide) rfl rfl ?_
  refine r_aload_n 173 rfl 0 dX9_tellOfAll_172 rfl rfl ?_
  refine r_getf (v := .int ((m 1) 12)) (k := 12) 176 rfl dX9_tellOfAll_173 (gf_X9_93_9 rfl) rfl rfl ?_
  rw [show (m 1) 12 = nI (D 8 2) from hct.1.1]
  refine r_ireturn rfl dX9_tellOfAll_176 (Nat.le_of_ble_eq_true rfl) (Nat.le_of_ble_eq_true rfl) ?_
  exact k

set_option maxHeartbeats 4000000 in
set_option maxRecDepth 20000 in
theorem c_toa_14 {Q : am_P} {z : am_Z} {m : Nat → Nat → Int32} {n : Nat} {i : Nat} {D K : Nat → Nat → Nat} (hI : IV i z m n D K) (hA : AIR m D) (k : Q (some (.int (nI (D 8 3)))) (wd z m) n) : AW mX9_tellOfAll Q 0 (am_ent (am_l mX9_tellOfAll) [.ref 1, .int 14]) [] (wd z m) n 0 0 := by
  show AW _ _ 0 [some (.ref 1), some (.int 14)] [] _ _ 0 0
  obtain ⟨h9, h10, hnz, hpg, hop, hnw, hct, him⟩ := id hI
  obtain ⟨hg, hfd, hf3, hf0, hns, hn6, hsd, hsb, hwi, hw4, hfr, hr1, hhr, hh⟩ := id h9
  refine r_iload_n 1 rfl 1 dX9_tellOfAll_0 rfl rfl ?_
  refine r_tabIn 177 dX9_tellOfAll_1 (by decide) (by decide) rfl rfl ?_
  refine r_aload_n 178 rfl 0 dX9_tellOfAll_177 rfl rfl ?_
  refine r_getf (v := .int ((m 1) 13)) (k := 13) 181 rfl dX9_tellOfAll_178 (gf_X9_202_9 rfl) rfl rfl ?_
  rw [show (m 1) 13 = nI (D 8 3) from hct.2.1.1]
  refine r_ireturn rfl dX9_tellOfAll_181 (Nat.le_of_ble_eq_true rfl) (Nat.le_of_ble_eq_true rfl) ?_
  exact k

set_option maxHeartbeats 4000000 in
set_option maxRecDepth 20000 in
theorem c_toa_15 {Q : am_P} {z : am_Z} {m : Nat → Nat → Int32} {n : Nat} {i : Nat} {D K : Nat → Nat → Nat} (hI : IV i z m n D K) (hA : AIR m D) (k : Q (some (.int (nI (D 8 4)))) (wd z m) n) : AW mX9_tellOfAll Q 0 (am_ent (am_l mX9_tellOfAll) [.ref 1, .int 15]) [] (wd z m) n 0 0 := by
  show AW _ _ 0 [some (.ref 1), some (.int 15)] [] _ _ 0 0
  obtain ⟨h9, h10, hnz, hpg, hop, hnw, hct, him⟩ := id hI
  obtain ⟨hg, hfd, hf3, hf0, hns, hn6, hsd, hsb, hwi, hw4, hfr, hr1, hhr, hh⟩ := id h9
  refine r_iload_n 1 rfl 1 dX9_tellOfAll_0 rfl rfl ?_
  refine r_tabOut 182 dX9_tellOfAll_1 (by decide) rfl ?_
  refine r_aload_n 183 rfl 0 dX9_tellOfAll_182 rfl rfl ?_
  refine r_getf (v := .int ((m 1) 14)) (k := 14) 186 rfl dX9_tellOfAll_183 (gf_X9_229_9 rfl) rfl rfl ?_
  rw [show (m 1) 14 = nI (D 8 4) from hct.2.2.1.1]
  refine r_ireturn rfl dX9_tellOfAll_186 (Nat.le_of_ble_eq_true rfl) (Nat.le_of_ble_eq_true rfl) ?_
  exact k

theorem c_toa {Q : am_P} {z : am_Z} {m : Nat → Nat → Int32} {n : Nat} {i : Nat} {D K : Nat → Nat → Nat} (hI : IV i z m n D K) (hA : AIR m D) {w : Nat} (hw : w < 16) (k : Q (some (.int (TA D (m 11) w))) (wd z m) n) : AW mX9_tellOfAll Q 0 (am_ent (am_l mX9_tellOfAll) [.ref 1, .int (nI w)]) [] (wd z m) n 0 0 := by
  rcases (show w = 0 ∨ w = 1 ∨ w = 2 ∨ w = 3 ∨ w = 4 ∨ w = 5 ∨ w = 6 ∨ w = 7 ∨ w = 8 ∨ w = 9 ∨ w = 10 ∨ w = 11 ∨ w = 12 ∨ w = 13 ∨ w = 14 ∨ w = 15 by omega) with rfl | rfl | rfl | rfl | rfl | rfl | rfl | rfl | rfl | rfl | rfl | rfl | rfl | rfl | rfl | rfl
  · exact c_toa_0 hI hA k
  · exact c_toa_1 hI hA k
  · exact c_toa_2 hI hA k
  · exact c_toa_3 hI hA k
  · exact c_toa_4 hI hA k
  · exact c_toa_5 hI hA k
  · exact c_toa_6 hI hA k
  · exact c_toa_7 hI hA k
  · exact c_toa_8 hI hA k
  · exact c_toa_9 hI hA k
  · exact c_toa_10 hI hA k
  · exact c_toa_11 hI hA k
  · exact c_toa_12 hI hA k
  · exact c_toa_13 hI hA k
  · exact c_toa_14 hI hA k
  · exact c_toa_15 hI hA k

set_option maxHeartbeats 4000000 in
set_option maxRecDepth 20000 in
theorem c_cof_0 {Q : am_P} {z : am_Z} {m : Nat → Nat → Int32} {n : Nat} {i : Nat} {D K : Nat → Nat → Nat} (hI : IV i z m n D K) (k : ∀ m', ag [43, 44, 45] m m' → Q (some (.int (nI (opn D)))) (wd z m') n) : AW mX10_countOf Q 0 (am_ent (am_l mX10_countOf) [.ref 37, .int 0]) [] (wd z m) n 0 0 := by
  show AW _ _ 0 [some (.ref 37), some (.int 0)] [] _ _ 0 0
  obtain ⟨h9, h10, hnz, hpg, hop, hnw, hct, him⟩ := id hI
  obtain ⟨gg, gfd, gf3, gf0, gns, gn7, gmr, gwi, gw4, gfr, gr1, ghr, gh⟩ := id h10
  refine r_iload_n 1 rfl 1 dX10_countOf_0 rfl rfl ?_
  refine r_tabIn 80 dX10_countOf_1 (by decide) (by decide) rfl rfl ?_
  refine r_aload_n 81 rfl 0 dX10_countOf_80 rfl rfl ?_
  refine q_V 84 0 0 rfl [] rfl dX10_countOf_81 cl_X10_countOf__X10_opens (lk_X10_104 rfl) im_X10_opens (ci := 10) rfl sl_X10__X10_opens rfl (Nat.le_of_ble_eq_true rfl) (fun _ _ => Nat.le_of_ble_eq_true rfl) rfl rfl (Nat.le_of_ble_eq_true rfl) (Nat.le_of_ble_eq_true rfl) ?_
  refine c_opens h10 (k_i ?_)
  refine r_ireturn rfl dX10_countOf_84 (Nat.le_of_ble_eq_true rfl) (Nat.le_of_ble_eq_true rfl) ?_
  exact k m (ag_r _ _)

set_option maxHeartbeats 4000000 in
set_option maxRecDepth 20000 in
theorem c_cof_1 {Q : am_P} {z : am_Z} {m : Nat → Nat → Int32} {n : Nat} {i : Nat} {D K : Nat → Nat → Nat} (hI : IV i z m n D K) (k : ∀ m', ag [43, 44, 45] m m' → Q (some (.int (nI (D 7 0)))) (wd z m') n) : AW mX10_countOf Q 0 (am_ent (am_l mX10_countOf) [.ref 37, .int 1]) [] (wd z m) n 0 0 := by
  show AW _ _ 0 [some (.ref 37), some (.int 1)] [] _ _ 0 0
  obtain ⟨h9, h10, hnz, hpg, hop, hnw, hct, him⟩ := id hI
  obtain ⟨gg, gfd, gf3, gf0, gns, gn7, gmr, gwi, gw4, gfr, gr1, ghr, gh⟩ := id h10
  refine r_iload_n 1 rfl 1 dX10_countOf_0 rfl rfl ?_
  refine r_tabIn 85 dX10_countOf_1 (by decide) (by decide) rfl rfl ?_
  refine r_aload_n 86 rfl 0 dX10_countOf_85 rfl rfl ?_
  refine r_getf (v := .int ((m 37) 2)) (k := 2) 89 rfl dX10_countOf_86 (gf_X10_83_10 rfl) rfl rfl ?_
  rw [show (m 37) 2 = nI (D 7 0) from gfd]
  refine r_ireturn rfl dX10_countOf_89 (Nat.le_of_ble_eq_true rfl) (Nat.le_of_ble_eq_true rfl) ?_
  exact k m (ag_r _ _)

set_option maxHeartbeats 4000000 in
set_option maxRecDepth 20000 in
theorem c_cof_2 {Q : am_P} {z : am_Z} {m : Nat → Nat → Int32} {n : Nat} {i : Nat} {D K : Nat → Nat → Nat} (hI : IV i z m n D K) (k : ∀ m', ag [43, 44, 45] m m' → Q (some (.int (nI (D 7 1)))) (wd z m') n) : AW mX10_countOf Q 0 (am_ent (am_l mX10_countOf) [.ref 37, .int 2]) [] (wd z m) n 0 0 := by
  show AW _ _ 0 [some (.ref 37), some (.int 2)] [] _ _ 0 0
  obtain ⟨h9, h10, hnz, hpg, hop, hnw, hct, him⟩ := id hI
  obtain ⟨gg, gfd, gf3, gf0, gns, gn7, gmr, gwi, gw4, gfr, gr1, ghr, gh⟩ := id h10
  refine r_iload_n 1 rfl 1 dX10_countOf_0 rfl rfl ?_
  refine r_tabIn 90 dX10_countOf_1 (by decide) (by decide) rfl rfl ?_
  refine r_aload_n 91 rfl 0 dX10_countOf_90 rfl rfl ?_
  refine r_getf (v := .int ((m 37) 10)) (k := 10) 94 rfl dX10_countOf_91 (gf_X10_95_10 rfl) rfl rfl ?_
  rw [show (m 37) 10 = nI (D 7 1) from gns]
  refine r_ireturn rfl dX10_countOf_94 (Nat.le_of_ble_eq_true rfl) (Nat.le_of_ble_eq_true rfl) ?_
  exact k m (ag_r _ _)

set_option maxHeartbeats 4000000 in
set_option maxRecDepth 20000 in
theorem c_cof_3 {Q : am_P} {z : am_Z} {m : Nat → Nat → Int32} {n : Nat} {i : Nat} {D K : Nat → Nat → Nat} (hI : IV i z m n D K) (k : ∀ m', ag [43, 44, 45] m m' → Q (some (.int (nI (bu_n (D 5) (D 7 1))))) (wd z m') n) : AW mX10_countOf Q 0 (am_ent (am_l mX10_countOf) [.ref 37, .int 3]) [] (wd z m) n 0 0 := by
  show AW _ _ 0 [some (.ref 37), some (.int 3)] [] _ _ 0 0
  obtain ⟨h9, h10, hnz, hpg, hop, hnw, hct, him⟩ := id hI
  obtain ⟨gg, gfd, gf3, gf0, gns, gn7, gmr, gwi, gw4, gfr, gr1, ghr, gh⟩ := id h10
  refine r_iload_n 1 rfl 1 dX10_countOf_0 rfl rfl ?_
  refine r_tabIn 95 dX10_countOf_1 (by decide) (by decide) rfl rfl ?_
  refine r_aload_n 96 rfl 0 dX10_countOf_95 rfl rfl ?_
  refine q_V 99 0 0 rfl [] rfl dX10_countOf_96 cl_X10_countOf__X10_burning (lk_X10_237 rfl) im_X10_burning (ci := 10) rfl sl_X10__X10_burning rfl (Nat.le_of_ble_eq_true rfl) (fun _ _ => Nat.le_of_ble_eq_true rfl) rfl rfl (Nat.le_of_ble_eq_true rfl) (Nat.le_of_ble_eq_true rfl) ?_
  refine c_burning h10 (k_i ?_)
  refine r_ireturn rfl dX10_countOf_99 (Nat.le_of_ble_eq_true rfl) (Nat.le_of_ble_eq_true rfl) ?_
  exact k m (ag_r _ _)

set_option maxHeartbeats 4000000 in
set_option maxRecDepth 20000 in
theorem c_cof_4 {Q : am_P} {z : am_Z} {m : Nat → Nat → Int32} {n : Nat} {i : Nat} {D K : Nat → Nat → Nat} (hI : IV i z m n D K) (k : ∀ m', ag [43, 44, 45] m m' → Q (some (.int (nI (D 7 2)))) (wd z m') n) : AW mX10_countOf Q 0 (am_ent (am_l mX10_countOf) [.ref 37, .int 4]) [] (wd z m) n 0 0 := by
  show AW _ _ 0 [some (.ref 37), some (.int 4)] [] _ _ 0 0
  obtain ⟨h9, h10, hnz, hpg, hop, hnw, hct, him⟩ := id hI
  obtain ⟨gg, gfd, gf3, gf0, gns, gn7, gmr, gwi, gw4, gfr, gr1, ghr, gh⟩ := id h10
  refine r_iload_n 1 rfl 1 dX10_countOf_0 rfl rfl ?_
  refine r_tabIn 100 dX10_countOf_1 (by decide) (by decide) rfl rfl ?_
  refine r_aload_n 101 rfl 0 dX10_countOf_100 rfl rfl ?_
  refine r_getf (v := .int ((m 37) 3)) (k := 3) 104 rfl dX10_countOf_101 (gf_X10_86_10 rfl) rfl rfl ?_
  rw [show (m 37) 3 = nI (D 7 2) from gwi]
  refine r_ireturn rfl dX10_countOf_104 (Nat.le_of_ble_eq_true rfl) (Nat.le_of_ble_eq_true rfl) ?_
  exact k m (ag_r _ _)

set_option maxHeartbeats 4000000 in
set_option maxRecDepth 20000 in
theorem c_cof_5 {Q : am_P} {z : am_Z} {m : Nat → Nat → Int32} {n : Nat} {i : Nat} {D K : Nat → Nat → Nat} (hI : IV i z m n D K) (k : ∀ m', ag [43, 44, 45] m m' → Q (some (.int (nI (D 7 4)))) (wd z m') n) : AW mX10_countOf Q 0 (am_ent (am_l mX10_countOf) [.ref 37, .int 5]) [] (wd z m) n 0 0 := by
  show AW _ _ 0 [some (.ref 37), some (.int 5)] [] _ _ 0 0
  obtain ⟨h9, h10, hnz, hpg, hop, hnw, hct, him⟩ := id hI
  obtain ⟨gg, gfd, gf3, gf0, gns, gn7, gmr, gwi, gw4, gfr, gr1, ghr, gh⟩ := id h10
  refine r_iload_n 1 rfl 1 dX10_countOf_0 rfl rfl ?_
  refine r_tabIn 105 dX10_countOf_1 (by decide) (by decide) rfl rfl ?_
  refine r_aload_n 106 rfl 0 dX10_countOf_105 rfl rfl ?_
  refine r_getf (v := .int ((m 37) 4)) (k := 4) 109 rfl dX10_countOf_106 (gf_X10_89_10 rfl) rfl rfl ?_
  rw [show (m 37) 4 = nI (D 7 4) from gfr]
  refine r_ireturn rfl dX10_countOf_109 (Nat.le_of_ble_eq_true rfl) (Nat.le_of_ble_eq_true rfl) ?_
  exact k m (ag_r _ _)

set_option maxHeartbeats 4000000 in
set_option maxRecDepth 20000 in
theorem c_cof_6 {Q : am_P} {z : am_Z} {m : Nat → Nat → Int32} {n : Nat} {i : Nat} {D K : Nat → Nat → Nat} (hI : IV i z m n D K) (k : ∀ m', ag [43, 44, 45] m m' → Q (some (.int (nI (D 7 3)))) (wd z m') n) : AW mX10_countOf Q 0 (am_ent (am_l mX10_countOf) [.ref 37, .int 6]) [] (wd z m) n 0 0 := by
  show AW _ _ 0 [some (.ref 37), some (.int 6)] [] _ _ 0 0
  obtain ⟨h9, h10, hnz, hpg, hop, hnw, hct, him⟩ := id hI
  obtain ⟨gg, gfd, gf3, gf0, gns, gn7, gmr, gwi, gw4, gfr, gr1, ghr, gh⟩ := id h10
  refine r_iload_n 1 rfl 1 dX10_countOf_0 rfl rfl ?_
  refine r_tabIn 110 dX10_countOf_1 (by decide) (by decide) rfl rfl ?_
  refine r_aload_n 111 rfl 0 dX10_countOf_110 rfl rfl ?_
  refine r_getf (v := .int ((m 37) 5)) (k := 5) 114 rfl dX10_countOf_111 (gf_X10_92_10 rfl) rfl rfl ?_
  rw [show (m 37) 5 = nI (D 7 3) from ghr]
  refine r_ireturn rfl dX10_countOf_114 (Nat.le_of_ble_eq_true rfl) (Nat.le_of_ble_eq_true rfl) ?_
  exact k m (ag_r _ _)

set_option maxHeartbeats 4000000 in
set_option maxRecDepth 20000 in
theorem c_cof_7 {Q : am_P} {z : am_Z} {m : Nat → Nat → Int32} {n : Nat} {i : Nat} {D K : Nat → Nat → Nat} (hI : IV i z m n D K) (k : ∀ m', ag [43, 44, 45] m m' → Q (some (.int (m 11 0))) (wd z m') n) : AW mX10_countOf Q 0 (am_ent (am_l mX10_countOf) [.ref 37, .int 7]) [] (wd z m) n 0 0 := by
  show AW _ _ 0 [some (.ref 37), some (.int 7)] [] _ _ 0 0
  obtain ⟨h9, h10, hnz, hpg, hop, hnw, hct, him⟩ := id hI
  obtain ⟨gg, gfd, gf3, gf0, gns, gn7, gmr, gwi, gw4, gfr, gr1, ghr, gh⟩ := id h10
  refine r_iload_n 1 rfl 1 dX10_countOf_0 rfl rfl ?_
  refine r_tabIn 115 dX10_countOf_1 (by decide) (by decide) rfl rfl ?_
  refine r_aload_n 116 rfl 0 dX10_countOf_115 rfl rfl ?_
  refine r_getf (v := .ref 41) (k := 9) 119 rfl dX10_countOf_116 (gf_X10_19_10 rfl) rfl rfl ?_
  refine r_iload_n 120 rfl 1 dX10_countOf_119 rfl rfl ?_
  refine r_bipush 122 rfl 7 dX10_countOf_120 (by decide) ?_
  refine r_isub 123 rfl dX10_countOf_122 ?_
  refine r_iald (f := m 41) 124 rfl 0 dX10_countOf_123 rfl (by decide) (by decide) (by decide) ?_
  rw [show (m 41) 0 = m 11 0 from (hnw.1.2.1 0 (by decide)).symm]
  refine r_ireturn rfl dX10_countOf_124 (Nat.le_of_ble_eq_true rfl) (Nat.le_of_ble_eq_true rfl) ?_
  exact k m (ag_r _ _)

set_option maxHeartbeats 4000000 in
set_option maxRecDepth 20000 in
theorem c_cof_8 {Q : am_P} {z : am_Z} {m : Nat → Nat → Int32} {n : Nat} {i : Nat} {D K : Nat → Nat → Nat} (hI : IV i z m n D K) (k : ∀ m', ag [43, 44, 45] m m' → Q (some (.int (m 11 1))) (wd z m') n) : AW mX10_countOf Q 0 (am_ent (am_l mX10_countOf) [.ref 37, .int 8]) [] (wd z m) n 0 0 := by
  show AW _ _ 0 [some (.ref 37), some (.int 8)] [] _ _ 0 0
  obtain ⟨h9, h10, hnz, hpg, hop, hnw, hct, him⟩ := id hI
  obtain ⟨gg, gfd, gf3, gf0, gns, gn7, gmr, gwi, gw4, gfr, gr1, ghr, gh⟩ := id h10
  refine r_iload_n 1 rfl 1 dX10_countOf_0 rfl rfl ?_
  refine r_tabIn 115 dX10_countOf_1 (by decide) (by decide) rfl rfl ?_
  refine r_aload_n 116 rfl 0 dX10_countOf_115 rfl rfl ?_
  refine r_getf (v := .ref 41) (k := 9) 119 rfl dX10_countOf_116 (gf_X10_19_10 rfl) rfl rfl ?_
  refine r_iload_n 120 rfl 1 dX10_countOf_119 rfl rfl ?_
  refine r_bipush 122 rfl 7 dX10_countOf_120 (by decide) ?_
  refine r_isub 123 rfl dX10_countOf_122 ?_
  refine r_iald (f := m 41) 124 rfl 1 dX10_countOf_123 rfl (by decide) (by decide) (by decide) ?_
  rw [show (m 41) 1 = m 11 1 from (hnw.1.2.1 1 (by decide)).symm]
  refine r_ireturn rfl dX10_countOf_124 (Nat.le_of_ble_eq_true rfl) (Nat.le_of_ble_eq_true rfl) ?_
  exact k m (ag_r _ _)

set_option maxHeartbeats 4000000 in
set_option maxRecDepth 20000 in
theorem c_cof_9 {Q : am_P} {z : am_Z} {m : Nat → Nat → Int32} {n : Nat} {i : Nat} {D K : Nat → Nat → Nat} (hI : IV i z m n D K) (k : ∀ m', ag [43, 44, 45] m m' → Q (some (.int (m 11 2))) (wd z m') n) : AW mX10_countOf Q 0 (am_ent (am_l mX10_countOf) [.ref 37, .int 9]) [] (wd z m) n 0 0 := by
  show AW _ _ 0 [some (.ref 37), some (.int 9)] [] _ _ 0 0
  obtain ⟨h9, h10, hnz, hpg, hop, hnw, hct, him⟩ := id hI
  obtain ⟨gg, gfd, gf3, gf0, gns, gn7, gmr, gwi, gw4, gfr, gr1, ghr, gh⟩ := id h10
  refine r_iload_n 1 rfl 1 dX10_countOf_0 rfl rfl ?_
  refine r_tabIn 115 dX10_countOf_1 (by decide) (by decide) rfl rfl ?_
  refine r_aload_n 116 rfl 0 dX10_countOf_115 rfl rfl ?_
  refine r_getf (v := .ref 41) (k := 9) 119 rfl dX10_countOf_116 (gf_X10_19_10 rfl) rfl rfl ?_
  refine r_iload_n 120 rfl 1 dX10_countOf_119 rfl rfl ?_
  refine r_bipush 122 rfl 7 dX10_countOf_120 (by decide) ?_
  refine r_isub 123 rfl dX10_countOf_122 ?_
  refine r_iald (f := m 41) 124 rfl 2 dX10_countOf_123 rfl (by decide) (by decide) (by decide) ?_
  rw [show (m 41) 2 = m 11 2 from (hnw.1.2.1 2 (by decide)).symm]
  refine r_ireturn rfl dX10_countOf_124 (Nat.le_of_ble_eq_true rfl) (Nat.le_of_ble_eq_true rfl) ?_
  exact k m (ag_r _ _)

set_option maxHeartbeats 4000000 in
set_option maxRecDepth 20000 in
theorem c_cof_10 {Q : am_P} {z : am_Z} {m : Nat → Nat → Int32} {n : Nat} {i : Nat} {D K : Nat → Nat → Nat} (hI : IV i z m n D K) (k : ∀ m', ag [43, 44, 45] m m' → Q (some (.int (nI (co_n (WH D) 8)))) (wd z m') n) : AW mX10_countOf Q 0 (am_ent (am_l mX10_countOf) [.ref 37, .int 10]) [] (wd z m) n 0 0 := by
  show AW _ _ 0 [some (.ref 37), some (.int 10)] [] _ _ 0 0
  obtain ⟨h9, h10, hnz, hpg, hop, hnw, hct, him⟩ := id hI
  obtain ⟨gg, gfd, gf3, gf0, gns, gn7, gmr, gwi, gw4, gfr, gr1, ghr, gh⟩ := id h10
  refine r_iload_n 1 rfl 1 dX10_countOf_0 rfl rfl ?_
  refine r_tabIn 125 dX10_countOf_1 (by decide) (by decide) rfl rfl ?_
  refine r_aload_n 126 rfl 0 dX10_countOf_125 rfl rfl ?_
  refine q_V 129 0 0 rfl [] rfl dX10_countOf_126 cl_X10_countOf__X10_somebodys (lk_X10_240 rfl) im_X10_somebodys (ci := 10) rfl sl_X10__X10_somebodys rfl (Nat.le_of_ble_eq_true rfl) (fun _ _ => Nat.le_of_ble_eq_true rfl) rfl rfl (Nat.le_of_ble_eq_true rfl) (Nat.le_of_ble_eq_true rfl) ?_
  refine c_somebodys h10 (fun m' hag => (k_i ?_))
  refine r_ireturn rfl dX10_countOf_129 (Nat.le_of_ble_eq_true rfl) (Nat.le_of_ble_eq_true rfl) ?_
  exact k m' hag

set_option maxHeartbeats 4000000 in
set_option maxRecDepth 20000 in
theorem c_cof_11 {Q : am_P} {z : am_Z} {m : Nat → Nat → Int32} {n : Nat} {i : Nat} {D K : Nat → Nat → Nat} (hI : IV i z m n D K) (k : ∀ m', ag [43, 44, 45] m m' → Q (some (.int (nI (D 8 1)))) (wd z m') n) : AW mX10_countOf Q 0 (am_ent (am_l mX10_countOf) [.ref 37, .int 11]) [] (wd z m) n 0 0 := by
  show AW _ _ 0 [some (.ref 37), some (.int 11)] [] _ _ 0 0
  obtain ⟨h9, h10, hnz, hpg, hop, hnw, hct, him⟩ := id hI
  obtain ⟨gg, gfd, gf3, gf0, gns, gn7, gmr, gwi, gw4, gfr, gr1, ghr, gh⟩ := id h10
  refine r_iload_n 1 rfl 1 dX10_countOf_0 rfl rfl ?_
  refine r_tabIn 130 dX10_countOf_1 (by decide) (by decide) rfl rfl ?_
  refine r_aload_n 131 rfl 0 dX10_countOf_130 rfl rfl ?_
  refine r_getf (v := .int ((m 37) 18)) (k := 18) 134 rfl dX10_countOf_131 (gf_X10_98_10 rfl) rfl rfl ?_
  rw [show (m 37) 18 = nI (D 8 1) from hnw.2.2.1]
  refine r_ireturn rfl dX10_countOf_134 (Nat.le_of_ble_eq_true rfl) (Nat.le_of_ble_eq_true rfl) ?_
  exact k m (ag_r _ _)

set_option maxHeartbeats 4000000 in
set_option maxRecDepth 20000 in
theorem c_cof_12 {Q : am_P} {z : am_Z} {m : Nat → Nat → Int32} {n : Nat} {i : Nat} {D K : Nat → Nat → Nat} (hI : IV i z m n D K) (k : ∀ m', ag [43, 44, 45] m m' → Q (some (.int (nI (D 8 0)))) (wd z m') n) : AW mX10_countOf Q 0 (am_ent (am_l mX10_countOf) [.ref 37, .int 12]) [] (wd z m) n 0 0 := by
  show AW _ _ 0 [some (.ref 37), some (.int 12)] [] _ _ 0 0
  obtain ⟨h9, h10, hnz, hpg, hop, hnw, hct, him⟩ := id hI
  obtain ⟨gg, gfd, gf3, gf0, gns, gn7, gmr, gwi, gw4, gfr, gr1, ghr, gh⟩ := id h10
  refine r_iload_n 1 rfl 1 dX10_countOf_0 rfl rfl ?_
  refine r_tabIn 135 dX10_countOf_1 (by decide) (by decide) rfl rfl ?_
  refine r_aload_n 136 rfl 0 dX10_countOf_135 rfl rfl ?_
  refine r_getf (v := .int ((m 37) 1)) (k := 1) 139 rfl dX10_countOf_136 (gf_X10_68_10 rfl) rfl rfl ?_
  rw [show (m 37) 1 = nI (D 8 0) from hpg.2.1]
  refine r_ireturn rfl dX10_countOf_139 (Nat.le_of_ble_eq_true rfl) (Nat.le_of_ble_eq_true rfl) ?_
  exact k m (ag_r _ _)

set_option maxHeartbeats 4000000 in
set_option maxRecDepth 20000 in
theorem c_cof_13 {Q : am_P} {z : am_Z} {m : Nat → Nat → Int32} {n : Nat} {i : Nat} {D K : Nat → Nat → Nat} (hI : IV i z m n D K) (k : ∀ m', ag [43, 44, 45] m m' → Q (some (.int (nI (D 8 2)))) (wd z m') n) : AW mX10_countOf Q 0 (am_ent (am_l mX10_countOf) [.ref 37, .int 13]) [] (wd z m) n 0 0 := by
  show AW _ _ 0 [some (.ref 37), some (.int 13)] [] _ _ 0 0
  obtain ⟨h9, h10, hnz, hpg, hop, hnw, hct, him⟩ := id hI
  obtain ⟨gg, gfd, gf3, gf0, gns, gn7, gmr, gwi, gw4, gfr, gr1, ghr, gh⟩ := id h10
  refine r_iload_n 1 rfl 1 dX10_countOf_0 rfl rfl ?_
  refine r_tabIn 140 dX10_countOf_1 (by decide) (by decide) rfl rfl ?_
  refine r_aload_n 141 rfl 0 dX10_countOf_140 rfl rfl ?_
  refine r_getf (v := .int ((m 37) 6)) (k := 6) 144 rfl dX10_countOf_141 (gf_X10_101_10 rfl) rfl rfl ?_
  rw [show (m 37) 6 = nI (D 8 2) from hct.1.2.1]
  refine r_ireturn rfl dX10_countOf_144 (Nat.le_of_ble_eq_true rfl) (Nat.le_of_ble_eq_true rfl) ?_
  exact k m (ag_r _ _)

set_option maxHeartbeats 4000000 in
set_option maxRecDepth 20000 in
theorem c_cof_14 {Q : am_P} {z : am_Z} {m : Nat → Nat → Int32} {n : Nat} {i : Nat} {D K : Nat → Nat → Nat} (hI : IV i z m n D K) (k : ∀ m', ag [43, 44, 45] m m' → Q (some (.int (nI (D 8 3)))) (wd z m') n) : AW mX10_countOf Q 0 (am_ent (am_l mX10_countOf) [.ref 37, .int 14]) [] (wd z m) n 0 0 := by
  show AW _ _ 0 [some (.ref 37), some (.int 14)] [] _ _ 0 0
  obtain ⟨h9, h10, hnz, hpg, hop, hnw, hct, him⟩ := id hI
  obtain ⟨gg, gfd, gf3, gf0, gns, gn7, gmr, gwi, gw4, gfr, gr1, ghr, gh⟩ := id h10
  refine r_iload_n 1 rfl 1 dX10_countOf_0 rfl rfl ?_
  refine r_tabIn 145 dX10_countOf_1 (by decide) (by decide) rfl rfl ?_
  refine r_aload_n 146 rfl 0 dX10_countOf_145 rfl rfl ?_
  refine r_getf (v := .int ((m 37) 15)) (k := 15) 149 rfl dX10_countOf_146 (gf_X10_183_10 rfl) rfl rfl ?_
  rw [show (m 37) 15 = nI (D 8 3) from hct.2.1.2.1]
  refine r_ireturn rfl dX10_countOf_149 (Nat.le_of_ble_eq_true rfl) (Nat.le_of_ble_eq_true rfl) ?_
  exact k m (ag_r _ _)

set_option maxHeartbeats 4000000 in
set_option maxRecDepth 20000 in
theorem c_cof_15 {Q : am_P} {z : am_Z} {m : Nat → Nat → Int32} {n : Nat} {i : Nat} {D K : Nat → Nat → Nat} (hI : IV i z m n D K) (k : ∀ m', ag [43, 44, 45] m m' → Q (some (.int (nI (D 8 4)))) (wd z m') n) : AW mX10_countOf Q 0 (am_ent (am_l mX10_countOf) [.ref 37, .int 15]) [] (wd z m) n 0 0 := by
  show AW _ _ 0 [some (.ref 37), some (.int 15)] [] _ _ 0 0
  obtain ⟨h9, h10, hnz, hpg, hop, hnw, hct, him⟩ := id hI
  obtain ⟨gg, gfd, gf3, gf0, gns, gn7, gmr, gwi, gw4, gfr, gr1, ghr, gh⟩ := id h10
  refine r_iload_n 1 rfl 1 dX10_countOf_0 rfl rfl ?_
  refine r_tabIn 150 dX10_countOf_1 (by decide) (by decide) rfl rfl ?_
  refine r_aload_n 151 rfl 0 dX10_countOf_150 rfl rfl ?_
  refine r_getf (v := .int ((m 37) 19)) (k := 19) 154 rfl dX10_countOf_151 (gf_X10_201_10 rfl) rfl rfl ?_
  rw [show (m 37) 19 = nI (D 8 4) from hct.2.2.1.2.1]
  refine r_ireturn rfl dX10_countOf_154 (Nat.le_of_ble_eq_true rfl) (Nat.le_of_ble_eq_true rfl) ?_
  exact k m (ag_r _ _)

theorem c_cof {Q : am_P} {z : am_Z} {m : Nat → Nat → Int32} {n : Nat} {i : Nat} {D K : Nat → Nat → Nat} (hI : IV i z m n D K) {w : Nat} (hw : w < 16) (k : ∀ m', ag [43, 44, 45] m m' → Q (some (.int (TA D (m 11) w))) (wd z m') n) : AW mX10_countOf Q 0 (am_ent (am_l mX10_countOf) [.ref 37, .int (nI w)]) [] (wd z m) n 0 0 := by
  rcases (show w = 0 ∨ w = 1 ∨ w = 2 ∨ w = 3 ∨ w = 4 ∨ w = 5 ∨ w = 6 ∨ w = 7 ∨ w = 8 ∨ w = 9 ∨ w = 10 ∨ w = 11 ∨ w = 12 ∨ w = 13 ∨ w = 14 ∨ w = 15 by omega) with rfl | rfl | rfl | rfl | rfl | rfl | rfl | rfl | rfl | rfl | rfl | rfl | rfl | rfl | rfl | rfl
  · exact c_cof_0 hI k
  · exact c_cof_1 hI k
  · exact c_cof_2 hI k
  · exact c_cof_3 hI k
  · exact c_cof_4 hI k
  · exact c_cof_5 hI k
  · exact c_cof_6 hI k
  · exact c_cof_7 hI k
  · exact c_cof_8 hI k
  · exact c_cof_9 hI k
  · exact c_cof_10 hI k
  · exact c_cof_11 hI k
  · exact c_cof_12 hI k
  · exact c_cof_13 hI k
  · exact c_cof_14 hI k
  · exact c_cof_15 hI k

set_option maxHeartbeats 4000000 in
set_option maxRecDepth 20000 in
theorem c_cof_o {Q : am_P} {z : am_Z} {m : Nat → Nat → Int32} {n : Nat} {y : Int32} (hy : y.toInt < 0 ∨ 16 ≤ y.toInt) (k : Q (some (.int (-102))) (wd z m) n) : AW mX10_countOf Q 0 (am_ent (am_l mX10_countOf) [.ref 37, .int y]) [] (wd z m) n 0 0 := by
  show AW _ _ 0 [some (.ref 37), some (.int y)] [] _ _ 0 0
  refine r_iload_n 1 rfl 1 dX10_countOf_0 rfl rfl ?_
  refine r_tabOut 155 dX10_countOf_1 (by omega) rfl ?_
  refine r_bipush 157 rfl (-102) dX10_countOf_155 (by decide) ?_
  refine r_ireturn rfl dX10_countOf_157 (Nat.le_of_ble_eq_true rfl) (Nat.le_of_ble_eq_true rfl) ?_
  exact k

set_option maxHeartbeats 4000000 in
set_option maxRecDepth 20000 in
theorem c10_count_o {Q : am_P} {z : am_Z} {m : Nat → Nat → Int32} {n : Nat} {y : Int32} (hy : y.toInt < 0 ∨ 16 ≤ y.toInt) (k : Q (some (.int (-102))) (wd z m) n) : AW mX10_count Q 0 (am_ent (am_l mX10_count) [.ref 37, .int y]) [] (wd z m) n 0 0 := by
  show AW _ _ 0 [some (.ref 37), some (.int y)] [] _ _ 0 0
  refine r_aload_n 1 rfl 0 dX10_count_0 rfl rfl ?_
  refine r_iload_n 2 rfl 1 dX10_count_1 rfl rfl ?_
  refine q_V 5 0 0 rfl [.int y] rfl dX10_count_2 cl_X10_count__X10_countOf (lk_X10_243 rfl) im_X10_countOf (ci := 10) rfl sl_X10__X10_countOf rfl (Nat.le_of_ble_eq_true rfl) (fun _ _ => Nat.le_of_ble_eq_true rfl) rfl rfl (Nat.le_of_ble_eq_true rfl) (Nat.le_of_ble_eq_true rfl) ?_
  refine c_cof_o hy (k_i ?_)
  refine r_ireturn rfl dX10_count_5 (Nat.le_of_ble_eq_true rfl) (Nat.le_of_ble_eq_true rfl) ?_
  exact k

set_option maxHeartbeats 4000000 in
set_option maxRecDepth 20000 in
theorem c10_count_t {Q : am_P} {z : am_Z} {m : Nat → Nat → Int32} {n : Nat} {i : Nat} {D K : Nat → Nat → Nat} (hI : IV i z m n D K) {w : Nat} (hw : w < 16) (k : ∀ m', ag [43, 44, 45] m m' → Q (some (.int (TA D (m 11) w))) (wd z m') n) : AW mX10_count Q 0 (am_ent (am_l mX10_count) [.ref 37, .int (nI w)]) [] (wd z m) n 0 0 := by
  show AW _ _ 0 [some (.ref 37), some (.int (nI w))] [] _ _ 0 0
  refine r_aload_n 1 rfl 0 dX10_count_0 rfl rfl ?_
  refine r_iload_n 2 rfl 1 dX10_count_1 rfl rfl ?_
  refine q_V 5 0 0 rfl [.int (nI w)] rfl dX10_count_2 cl_X10_count__X10_countOf (lk_X10_243 rfl) im_X10_countOf (ci := 10) rfl sl_X10__X10_countOf rfl (Nat.le_of_ble_eq_true rfl) (fun _ _ => Nat.le_of_ble_eq_true rfl) rfl rfl (Nat.le_of_ble_eq_true rfl) (Nat.le_of_ble_eq_true rfl) ?_
  refine c_cof hI hw (fun m' hag => (k_i ?_))
  refine r_ireturn rfl dX10_count_5 (Nat.le_of_ble_eq_true rfl) (Nat.le_of_ble_eq_true rfl) ?_
  exact k m' hag

set_option maxHeartbeats 4000000 in
set_option maxRecDepth 20000 in
theorem c9_count_o {Q : am_P} {z : am_Z} {m : Nat → Nat → Int32} {n : Nat} {y : Int32} (hy : y.toInt < 0 ∨ 16 ≤ y.toInt) (k : Q (some (.int (-102))) (wd z m) n) : AW mX9_count Q 0 (am_ent (am_l mX9_count) [.ref 1, .int y]) [] (wd z m) n 0 0 := by
  show AW _ _ 0 [some (.ref 1), some (.int y)] [] _ _ 0 0
  refine r_iload_n 1 rfl 1 dX9_count_0 rfl rfl ?_
  refine r_if_lt 4 10 rfl dX9_count_1 rfl (fun c1 => ?_) (fun c1 => ?_)
  · replace c1 : y.toInt < (0 : Int) := Int32.lt_iff_toInt_lt.mp c1
    refine r_bipush 12 rfl (-102) dX9_count_10 (by decide) ?_
    refine r_ireturn rfl dX9_count_12 (Nat.le_of_ble_eq_true rfl) (Nat.le_of_ble_eq_true rfl) ?_
    exact k
  · replace c1 : ¬ y.toInt < (0 : Int) := fun q__ => c1 (Int32.lt_iff_toInt_lt.mpr q__)
    refine r_iload_n 5 rfl 1 dX9_count_4 rfl rfl ?_
    refine r_bipush 7 rfl 16 dX9_count_5 (by decide) ?_
    refine r_icmp_lt 10 13 rfl dX9_count_7 rfl (fun c7 => ?_) (fun c7 => ?_)
    · replace c7 : y.toInt < (16 : Int) := Int32.lt_iff_toInt_lt.mp c7
      exfalso; omega
    · replace c7 : ¬ y.toInt < (16 : Int) := fun q__ => c7 (Int32.lt_iff_toInt_lt.mpr q__)
      refine r_bipush 12 rfl (-102) dX9_count_10 (by decide) ?_
      refine r_ireturn rfl dX9_count_12 (Nat.le_of_ble_eq_true rfl) (Nat.le_of_ble_eq_true rfl) ?_
      exact k

set_option maxHeartbeats 4000000 in
set_option maxRecDepth 20000 in
theorem c9_count_t {Q : am_P} {z : am_Z} {m : Nat → Nat → Int32} {n : Nat} {i : Nat} {D K : Nat → Nat → Nat} (hI : IV i z m n D K) {w : Nat} (hw : w < 16) (k : ∀ m', ag [29, 30, 31, 32] m m' → Q (some (.int (TA D (m 11) w))) (wd z m') n) : AW mX9_count Q 0 (am_ent (am_l mX9_count) [.ref 1, .int (nI w)]) [] (wd z m) n 0 0 := by
  show AW _ _ 0 [some (.ref 1), some (.int (nI w))] [] _ _ 0 0
  refine r_iload_n 1 rfl 1 dX9_count_0 rfl rfl ?_
  refine r_if_lt 4 10 rfl dX9_count_1 rfl (fun q__ => absurd q__ (fun q__ => absurd ((nI_ltI (a := w) (b := 0) (by omega) (by omega)).mp q__) (by omega))) (fun _ => ?_)
  refine r_iload_n 5 rfl 1 dX9_count_4 rfl rfl ?_
  refine r_bipush 7 rfl 16 dX9_count_5 (by decide) ?_
  refine r_icmp_lt 10 13 rfl dX9_count_7 rfl (fun _ => ?_) (fun q__ => absurd ((nI_ltI (a := w) (b := 16) (by omega) (by omega)).mpr (by omega)) q__)
  refine r_aload_n 14 rfl 0 dX9_count_13 rfl rfl ?_
  refine q_V 17 0 0 rfl [] rfl dX9_count_14 cl_X9_count__X9_settleNow (lk_X9_103 rfl) im_X9_settleNow (ci := 9) rfl sl_X9__X9_settleNow rfl (Nat.le_of_ble_eq_true rfl) (fun _ _ => Nat.le_of_ble_eq_true rfl) rfl rfl (Nat.le_of_ble_eq_true rfl) (Nat.le_of_ble_eq_true rfl) ?_
  refine c_settleNow hI.1 (fun m' hA hag => (k_v ?_))
  have e11 : m' 11 = m 11 := hag 11 (by decide)
  refine r_aload_n 18 rfl 0 dX9_count_17 rfl rfl ?_
  refine r_iload_n 19 rfl 1 dX9_count_18 rfl rfl ?_
  refine q_V 22 0 0 rfl [.int (nI w)] rfl dX9_count_19 cl_X9_count__X9_tellOfAll (lk_X9_251 rfl) im_X9_tellOfAll (ci := 9) rfl sl_X9__X9_tellOfAll rfl (Nat.le_of_ble_eq_true rfl) (fun _ _ => Nat.le_of_ble_eq_true rfl) rfl rfl (Nat.le_of_ble_eq_true rfl) (Nat.le_of_ble_eq_true rfl) ?_
  refine c_toa (IV_ag hI (ag_w hag (by decide))) hA hw (k_i ?_)
  rw [e11]
  refine r_ireturn rfl dX9_count_22 (Nat.le_of_ble_eq_true rfl) (Nat.le_of_ble_eq_true rfl) ?_
  exact k m' hag

set_option maxHeartbeats 4000000 in
set_option maxRecDepth 20000 in
theorem P_count {i : Nat} {z : am_Z} {m : Nat → Nat → Int32} {n : Nat} {D K : Nat → Nat → Nat} (hI : IV i z m n D K) (hi : i + 5 ≤ 2560) (x : Int32) : AW mX9_count (PR (i + 5) mX10_count [.ref 37, .int x]) 0 (am_ent (am_l mX9_count) [.ref 1, .int x]) [] (wd z m) n 0 0 := by
  rcases i_cases x 16 (by decide) with hx | ⟨w, hw, rfl⟩
  · exact c9_count_o hx (PR_i (fun Q2 k => c10_count_o hx (k _ _ _ _ _ (IV_mono hI (by omega) hi))))
  · refine c9_count_t hI hw (fun m1 hag => PR_i (fun Q2 k => ?_))
    have hI1 := IV_ag hI (ag_w hag (by decide))
    refine c10_count_t hI1 hw (fun m2 hag2 => ?_)
    rw [show m1 11 = m 11 from hag 11 (by decide)]
    exact k _ _ _ _ _ (IV_mono (IV_ag hI1 (ag_w hag2 (by decide))) (by omega) hi)
