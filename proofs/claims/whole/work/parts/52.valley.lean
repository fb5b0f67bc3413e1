set_option maxHeartbeats 4000000 in
set_option maxRecDepth 20000 in
theorem c_init5 {Q : am_P} {h : Nat → am_E} {n : Nat} {q : Nat} (hq : h q = .inr (.inr (5, [.int 0, .null, .null, .int 0, .int 0, .int 0, .null, .null, .int 0, .null, .null]))) (hqn : q ≤ n) (k : Q none (va_up (va_up (va_up (va_up (va_up (va_up (va_up (va_up (va_up (va_up (va_up (va_up h (n + 1) (.inl (1, 6, fun _ => 0))) q (.inr (.inr (5, [.int 0, .ref (n + 1), .null, .int 0, .int 0, .int 0, .null, .null, .int 0, .null, .null])))) ((n + 1) + 1) (.inl (0, 6, fun _ => 0))) q (.inr (.inr (5, [.int 0, .ref (n + 1), .ref ((n + 1) + 1), .int 0, .int 0, .int 0, .null, .null, .int 0, .null, .null])))) (((n + 1) + 1) + 1) (.inl (0, 8, fun _ => 0))) q (.inr (.inr (5, [.int 0, .ref (n + 1), .ref ((n + 1) + 1), .int 0, .int 0, .int 0, .ref (((n + 1) + 1) + 1), .null, .int 0, .null, .null])))) ((((n + 1) + 1) + 1) + 1) (.inl (0, 3, fun _ => 0))) q (.inr (.inr (5, [.int 0, .ref (n + 1), .ref ((n + 1) + 1), .int 0, .int 0, .int 0, .ref (((n + 1) + 1) + 1), .ref ((((n + 1) + 1) + 1) + 1), .int 0, .null, .null])))) (((((n + 1) + 1) + 1) + 1) + 1) (.inl (0, 8, fun _ => 0))) q (.inr (.inr (5, [.int 0, .ref (n + 1), .ref ((n + 1) + 1), .int 0, .int 0, .int 0, .ref (((n + 1) + 1) + 1), .ref ((((n + 1) + 1) + 1) + 1), .int 0, .ref (((((n + 1) + 1) + 1) + 1) + 1), .null])))) ((((((n + 1) + 1) + 1) + 1) + 1) + 1) (.inl (0, 8, fun _ => 0))) q (.inr (.inr (5, [.int 0, .ref (n + 1), .ref ((n + 1) + 1), .int 0, .int 0, .int 0, .ref (((n + 1) + 1) + 1), .ref ((((n + 1) + 1) + 1) + 1), .int 0, .ref (((((n + 1) + 1) + 1) + 1) + 1), .ref ((((((n + 1) + 1) + 1) + 1) + 1) + 1)])))) ((((((n + 1) + 1) + 1) + 1) + 1) + 1)) : AW mX5_init Q 0 (am_ent (am_l mX5_init) [.ref q]) [] (h) n 0 0 := by
  show AW _ _ 0 [some (.ref q)] [] _ _ 0 0
  refine r_aload_n 1 rfl 0 dX5_init_0 rfl rfl ?_
  refine r_objInit 4 rfl dX5_init_1 (lk_X5_3 rfl) (by decide) (Nat.le_of_ble_eq_true rfl) ?_
  refine r_aload_n 5 rfl 0 dX5_init_4 rfl rfl ?_
  refine r_bipush 7 rfl 6 dX5_init_5 (by decide) ?_
  refine r_newaZ 9 rfl 6 dX5_init_7 rfl (by decide) (Nat.le_of_ble_eq_true rfl) (Nat.le_of_ble_eq_true rfl) ?_
  refine r_putf 12 rfl (k := 1) [.int 0, .ref (n + 1), .null, .int 0, .int 0, .int 0, .null, .null, .int 0, .null, .null] dX5_init_9 (pf_X5_9_5 rfl rfl) (up_n (by omega) hq) (Nat.le_of_ble_eq_true rfl) rfl (fun _ _ => ⟨rfl, rfl⟩) ?_
  refine r_aload_n 13 rfl 0 dX5_init_12 rfl rfl ?_
  refine r_bipush 15 rfl 6 dX5_init_13 (by decide) ?_
  refine r_newaI 17 rfl 6 dX5_init_15 rfl (by decide) (Nat.le_of_ble_eq_true rfl) (Nat.le_of_ble_eq_true rfl) ?_
  refine r_putf 20 rfl (k := 2) [.int 0, .ref (n + 1), .ref ((n + 1) + 1), .int 0, .int 0, .int 0, .null, .null, .int 0, .null, .null] dX5_init_17 (pf_X5_15_5 rfl rfl) (up_n (by omega) up_s) (Nat.le_of_ble_eq_true rfl) rfl (fun _ _ => ⟨rfl, rfl⟩) ?_
  refine r_aload_n 21 rfl 0 dX5_init_20 rfl rfl ?_
  refine r_bipush 23 rfl 8 dX5_init_21 (by decide) ?_
  refine r_newaI 25 rfl 8 dX5_init_23 rfl (by decide) (Nat.le_of_ble_eq_true rfl) (Nat.le_of_ble_eq_true rfl) ?_
  refine r_putf 28 rfl (k := 6) [.int 0, .ref (n + 1), .ref ((n + 1) + 1), .int 0, .int 0, .int 0, .ref (((n + 1) + 1) + 1), .null, .int 0, .null, .null] dX5_init_25 (pf_X5_19_5 rfl rfl) (up_n (by omega) up_s) (Nat.le_of_ble_eq_true rfl) rfl (fun _ _ => ⟨rfl, rfl⟩) ?_
  refine r_aload_n 29 rfl 0 dX5_init_28 rfl rfl ?_
  refine r_iconst 30 rfl 3 dX5_init_29 rfl ?_
  refine r_newaI 32 rfl 3 dX5_init_30 rfl (by decide) (Nat.le_of_ble_eq_true rfl) (Nat.le_of_ble_eq_true rfl) ?_
  refine r_putf 35 rfl (k := 7) [.int 0, .ref (n + 1), .ref ((n + 1) + 1), .int 0, .int 0, .int 0, .ref (((n + 1) + 1) + 1), .ref ((((n + 1) + 1) + 1) + 1), .int 0, .null, .null] dX5_init_32 (pf_X5_22_5 rfl rfl) (up_n (by omega) up_s) (Nat.le_of_ble_eq_true rfl) rfl (fun _ _ => ⟨rfl, rfl⟩) ?_
  refine r_aload_n 36 rfl 0 dX5_init_35 rfl rfl ?_
  refine r_bipush 38 rfl 8 dX5_init_36 (by decide) ?_
  refine r_newaI 40 rfl 8 dX5_init_38 rfl (by decide) (Nat.le_of_ble_eq_true rfl) (Nat.le_of_ble_eq_true rfl) ?_
  refine r_putf 43 rfl (k := 9) [.int 0, .ref (n + 1), .ref ((n + 1) + 1), .int 0, .int 0, .int 0, .ref (((n + 1) + 1) + 1), .ref ((((n + 1) + 1) + 1) + 1), .int 0, .ref (((((n + 1) + 1) + 1) + 1) + 1), .null] dX5_init_40 (pf_X5_25_5 rfl rfl) (up_n (by omega) up_s) (Nat.le_of_ble_eq_true rfl) rfl (fun _ _ => ⟨rfl, rfl⟩) ?_
  refine r_aload_n 44 rfl 0 dX5_init_43 rfl rfl ?_
  refine r_bipush 46 rfl 8 dX5_init_44 (by decide) ?_
  refine r_newaI 48 rfl 8 dX5_init_46 rfl (by decide) (Nat.le_of_ble_eq_true rfl) (Nat.le_of_ble_eq_true rfl) ?_
  refine r_putf 51 rfl (k := 10) [.int 0, .ref (n + 1), .ref ((n + 1) + 1), .int 0, .int 0, .int 0, .ref (((n + 1) + 1) + 1), .ref ((((n + 1) + 1) + 1) + 1), .int 0, .ref (((((n + 1) + 1) + 1) + 1) + 1), .ref ((((((n + 1) + 1) + 1) + 1) + 1) + 1)] dX5_init_48 (pf_X5_28_5 rfl rfl) (up_n (by omega) up_s) (Nat.le_of_ble_eq_true rfl) rfl (fun _ _ => ⟨rfl, rfl⟩) ?_
  refine r_return rfl dX5_init_51 (Nat.le_of_ble_eq_true rfl) (Nat.le_of_ble_eq_true rfl) ?_
  exact k

theorem wd_tow {z : am_Z} {m : Nat → Nat → Int32} {T : Nat → am_E} (hT : ∀ x, x ≤ 53 → T x = wd z m x) : T = wd (z.1, z.2.1, T, z.2.2.2) m := by
  funext k
  unfold wd
  by_cases h0 : k = 0
  · rw [if_pos h0, hT k (by omega)]; unfold wd; rw [if_pos h0]
  · rw [if_neg h0]
    by_cases h53 : k ≤ 53
    · rw [if_pos h53, hT k h53]; unfold wd; rw [if_neg h0, if_pos h53]; exact (wc_eq (z := z) (z' := (z.1, z.2.1, T, z.2.2.2)) _ rfl rfl k).symm
    · rw [if_neg h53]
theorem wd_hi {z : am_Z} {m : Nat → Nat → Int32} {x : Nat} (h : 53 < x) : wd z m x = z.2.2.1 x := by
  unfold wd
  rw [if_neg (by omega), if_neg (by omega)]
set_option maxHeartbeats 4000000 in
set_option maxRecDepth 20000 in
theorem c_init5w {Q : am_P} {z : am_Z} {m : Nat → Nat → Int32} {n : Nat} (hn : 53 ≤ n) (k : ∀ z' : am_Z, z'.1 = z.1 → z'.2.1 = z.2.1 → z'.2.2.2 = z.2.2.2 → (∀ x, x ≤ n → 53 < x → z'.2.2.1 x = z.2.2.1 x) → z'.2.2.1 (n + 1) = .inr (.inr (5, [.int 0, .ref (n + 2), .ref (n + 3), .int 0, .int 0, .int 0, .ref (n + 4), .ref (n + 5), .int 0, .ref (n + 6), .ref (n + 7)])) → z'.2.2.1 (n + 2) = .inl (1, 6, fun _ => 0) → z'.2.2.1 (n + 3) = .inl (0, 6, fun _ => 0) → z'.2.2.1 (n + 4) = .inl (0, 8, fun _ => 0) → z'.2.2.1 (n + 5) = .inl (0, 3, fun _ => 0) → z'.2.2.1 (n + 6) = .inl (0, 8, fun _ => 0) → z'.2.2.1 (n + 7) = .inl (0, 8, fun _ => 0) → Q none (wd z' m) (n + 7)) : AW mX5_init Q 0 (am_ent (am_l mX5_init) [.ref (n + 1)]) [] (va_up (wd z m) (n + 1) (.inr (.inr (5, [.int 0, .null, .null, .int 0, .int 0, .int 0, .null, .null, .int 0, .null, .null])))) (n + 1) 0 0 := by
  refine c_init5 up_s (Nat.le_refl _) ?_
  have hT : ∀ x, x ≤ n → (va_up (va_up (va_up (va_up (va_up (va_up (va_up (va_up (va_up (va_up (va_up (va_up (va_up (wd z m) (n + 1) (.inr (.inr (5, [.int 0, .null, .null, .int 0, .int 0, .int 0, .null, .null, .int 0, .null, .null])))) ((n + 1) + 1) (.inl (1, 6, fun _ => 0))) (n + 1) (.inr (.inr (5, [.int 0, .ref ((n + 1) + 1), .null, .int 0, .int 0, .int 0, .null, .null, .int 0, .null, .null])))) (((n + 1) + 1) + 1) (.inl (0, 6, fun _ => 0))) (n + 1) (.inr (.inr (5, [.int 0, .ref ((n + 1) + 1), .ref (((n + 1) + 1) + 1), .int 0, .int 0, .int 0, .null, .null, .int 0, .null, .null])))) ((((n + 1) + 1) + 1) + 1) (.inl (0, 8, fun _ => 0))) (n + 1) (.inr (.inr (5, [.int 0, .ref ((n + 1) + 1), .ref (((n + 1) + 1) + 1), .int 0, .int 0, .int 0, .ref ((((n + 1) + 1) + 1) + 1), .null, .int 0, .null, .null])))) (((((n + 1) + 1) + 1) + 1) + 1) (.inl (0, 3, fun _ => 0))) (n + 1) (.inr (.inr (5, [.int 0, .ref ((n + 1) + 1), .ref (((n + 1) + 1) + 1), .int 0, .int 0, .int 0, .ref ((((n + 1) + 1) + 1) + 1), .ref (((((n + 1) + 1) + 1) + 1) + 1), .int 0, .null, .null])))) ((((((n + 1) + 1) + 1) + 1) + 1) + 1) (.inl (0, 8, fun _ => 0))) (n + 1) (.inr (.inr (5, [.int 0, .ref ((n + 1) + 1), .ref (((n + 1) + 1) + 1), .int 0, .int 0, .int 0, .ref ((((n + 1) + 1) + 1) + 1), .ref (((((n + 1) + 1) + 1) + 1) + 1), .int 0, .ref ((((((n + 1) + 1) + 1) + 1) + 1) + 1), .null])))) (((((((n + 1) + 1) + 1) + 1) + 1) + 1) + 1) (.inl (0, 8, fun _ => 0))) (n + 1) (.inr (.inr (5, [.int 0, .ref ((n + 1) + 1), .ref (((n + 1) + 1) + 1), .int 0, .int 0, .int 0, .ref ((((n + 1) + 1) + 1) + 1), .ref (((((n + 1) + 1) + 1) + 1) + 1), .int 0, .ref ((((((n + 1) + 1) + 1) + 1) + 1) + 1), .ref (((((((n + 1) + 1) + 1) + 1) + 1) + 1) + 1)])))) x = wd z m x := fun x hx => by
    repeat rw [va_up_ne _ _ (by omega)]
  rw [wd_tow (z := z) (m := m) (fun x hx => hT x (by omega))]
  exact k _ rfl rfl rfl (fun x h1 h2 => (hT x h1).trans (wd_hi h2)) up_s (up_n (by omega) (up_n (by omega) (up_n (by omega) (up_n (by omega) (up_n (by omega) (up_n (by omega) (up_n (by omega) (up_n (by omega) (up_n (by omega) (up_n (by omega) (up_n (by omega) up_s))))))))))) (up_n (by omega) (up_n (by omega) (up_n (by omega) (up_n (by omega) (up_n (by omega) (up_n (by omega) (up_n (by omega) (up_n (by omega) (up_n (by omega) up_s))))))))) (up_n (by omega) (up_n (by omega) (up_n (by omega) (up_n (by omega) (up_n (by omega) (up_n (by omega) (up_n (by omega) up_s))))))) (up_n (by omega) (up_n (by omega) (up_n (by omega) (up_n (by omega) (up_n (by omega) up_s))))) (up_n (by omega) (up_n (by omega) (up_n (by omega) up_s))) (up_n (by omega) up_s)

set_option maxHeartbeats 4000000 in
set_option maxRecDepth 20000 in
theorem lp_c_cf_7_q {Q : am_P} {z : am_Z} {m : Nat → Nat → Int32} {n : Nat} {q : Nat} (hq : 53 < q) (hz0 : z.2.2.1 q = .inr (.inr (5, [.int 0, .ref (q + 1), .ref (q + 2), .int 0, .int 0, .int 0, .ref (q + 3), .ref (q + 4), .int 0, .ref (q + 5), .ref (q + 6)]))) (hz1 : z.2.2.1 (q + 1) = .inl (1, 6, fun _ => 0)) (hz2 : z.2.2.1 (q + 2) = .inl (0, 6, fun _ => 0)) (hz3 : z.2.2.1 (q + 3) = .inl (0, 8, fun _ => 0)) (hz4 : z.2.2.1 (q + 4) = .inl (0, 3, fun _ => 0)) (hz5 : z.2.2.1 (q + 5) = .inl (0, 8, fun _ => 0)) (hz6 : z.2.2.1 (q + 6) = .inl (0, 8, fun _ => 0)) (kx : ∀ m', m' 7 = upd (m 7) 0 0 → (∀ j, j < 6 → m' 8 j = (fun _ => 0) j) → (∀ j, j < 6 → m' 9 j = (fun _ => 0) j) → ag [7, 8, 9] m m' → AW mX5_copyFrom Q 46 [some (.ref 7), some (.ref q), none] [] (wd z m') n 0 0) : ∀ (d c : Nat), c + d = 6 → ∀ m', m' 7 = upd (m 7) 0 0 → (∀ j, j < c → m' 8 j = (fun _ => 0) j) → (∀ j, j < c → m' 9 j = (fun _ => 0) j) → ag [7, 8, 9] m m' → AW mX5_copyFrom Q 10 [some (.ref 7), some (.ref q), some (.int (nI c))] [] (wd z m') n 0 0 := by
  intro d
  induction d with
  | zero =>
    intro c hc m' h0 h1 h2 hag
    obtain rfl : c = 6 := by omega
    refine r_iload_n 11 rfl 2 dX5_copyFrom_10 rfl rfl ?_
    refine r_bipush 13 rfl 6 dX5_copyFrom_11 (by decide) ?_
    refine r_icmp_ge 16 46 rfl dX5_copyFrom_13 rfl (fun _ => ?_) (fun q__ => absurd ((nI_leI (a := 6) (b := 6) (by omega) (by omega)).mpr (by omega)) q__)
    refine AW.drop 2 [some (.ref 7), some (.ref q), none] rfl ?_
    exact kx m' h0 h1 h2 hag
  | succ d ih =>
    intro c hc m' h0 h1 h2 hag
    refine r_iload_n 11 rfl 2 dX5_copyFrom_10 rfl rfl ?_
    refine r_bipush 13 rfl 6 dX5_copyFrom_11 (by decide) ?_
    refine r_icmp_ge 16 46 rfl dX5_copyFrom_13 rfl (fun q__ => absurd q__ (fun q__ => absurd ((nI_leI (a := 6) (b := c) (by omega) (by omega)).mp q__) (by omega))) (fun _ => ?_)
    refine r_aload_n 17 rfl 0 dX5_copyFrom_16 rfl rfl ?_
    refine r_getf (v := .ref 8) (k := 1) 20 rfl dX5_copyFrom_17 (gf_X5_9_5 rfl) rfl rfl ?_
    refine r_iload_n 21 rfl 2 dX5_copyFrom_20 rfl rfl ?_
    refine r_aload_n 22 rfl 1 dX5_copyFrom_21 rfl rfl ?_
    refine r_getf (v := .ref (q + 1)) (k := 1) 25 rfl dX5_copyFrom_22 (gf_X5_9_5 rfl) (wd_dy hq hz0) rfl ?_
    refine r_iload_n 26 rfl 2 dX5_copyFrom_25 rfl rfl ?_
    refine r_zald (f := fun _ => 0) 27 rfl c dX5_copyFrom_26 (by omega) (wd_dy (by omega) hz1) rfl (by omega) (by decide) ?_
    refine w_zast 28 rfl c (va_up m' 8 (upd (m' 8) c ((fun _ => 0) c))) dX5_copyFrom_27 (by decide) (by decide) (fun _ => rfl) rfl (by omega) (by decide) rfl rfl ?_
    refine r_aload_n 29 rfl 0 dX5_copyFrom_28 rfl rfl ?_
    refine r_getf (v := .ref 9) (k := 2) 32 rfl dX5_copyFrom_29 (gf_X5_15_5 rfl) rfl rfl ?_
    refine r_iload_n 33 rfl 2 dX5_copyFrom_32 rfl rfl ?_
    refine r_aload_n 34 rfl 1 dX5_copyFrom_33 rfl rfl ?_
    refine r_getf (v := .ref (q + 2)) (k := 2) 37 rfl dX5_copyFrom_34 (gf_X5_15_5 rfl) (wd_dy hq hz0) rfl ?_
    refine r_iload_n 38 rfl 2 dX5_copyFrom_37 rfl rfl ?_
    refine r_iald (f := fun _ => 0) 39 rfl c dX5_copyFrom_38 (wd_dy (by omega) hz2) rfl (by omega) (by decide) ?_
    refine w_iast 40 rfl c (va_up (va_up m' 8 (upd (m' 8) c ((fun _ => 0) c))) 9 (upd (m' 9) c ((fun _ => 0) c))) dX5_copyFrom_39 (by decide) (by decide) (fun _ => rfl) rfl (by omega) (by decide) rfl ?_
    refine r_iinc 43 rfl (nI (c + 1)) [some (.ref 7), some (.ref q), some (.int (nI (c + 1)))] dX5_copyFrom_40 rfl (nI_1 _) (by decide) rfl ?_
    refine r_goto 10 dX5_copyFrom_43 rfl ?_
    refine ih (c + 1) (by omega) _ ?_ (fun j hj => ?_) (fun j hj => ?_) (ag_up (ag_up hag (by decide)) (by decide))
    · exact h0
    · show upd (m' 8) c _ j = _; unfold upd
      by_cases hjc : j = c
      · rw [if_pos hjc]
      · rw [if_neg hjc]; exact h1 j (by omega)
    · show upd (m' 9) c _ j = _; unfold upd
      by_cases hjc : j = c
      · rw [if_pos hjc]
      · rw [if_neg hjc]; exact h2 j (by omega)
set_option maxHeartbeats 4000000 in
set_option maxRecDepth 20000 in
theorem c_cf_7_q {Q : am_P} {z : am_Z} {m : Nat → Nat → Int32} {n : Nat} {q : Nat} (hq : 53 < q) (hz0 : z.2.2.1 q = .inr (.inr (5, [.int 0, .ref (q + 1), .ref (q + 2), .int 0, .int 0, .int 0, .ref (q + 3), .ref (q + 4), .int 0, .ref (q + 5), .ref (q + 6)]))) (hz1 : z.2.2.1 (q + 1) = .inl (1, 6, fun _ => 0)) (hz2 : z.2.2.1 (q + 2) = .inl (0, 6, fun _ => 0)) (hz3 : z.2.2.1 (q + 3) = .inl (0, 8, fun _ => 0)) (hz4 : z.2.2.1 (q + 4) = .inl (0, 3, fun _ => 0)) (hz5 : z.2.2.1 (q + 5) = .inl (0, 8, fun _ => 0)) (hz6 : z.2.2.1 (q + 6) = .inl (0, 8, fun _ => 0)) (k : ∀ m', (m' 7 0 = 0 ∧ m' 7 3 = 0 ∧ m' 7 4 = 0 ∧ m' 7 5 = 0 ∧ m' 7 8 = 0) → (∀ j, j < 6 → m' 8 j = (fun _ => 0) j) → (∀ j, j < 6 → m' 9 j = (fun _ => 0) j) → (∀ j, j < 8 → m' 10 j = (fun _ => 0) j) → (∀ j, j < 3 → m' 11 j = (fun _ => 0) j) → (∀ j, j < 8 → m' 12 j = (fun _ => 0) j) → (∀ j, j < 8 → m' 13 j = (fun _ => 0) j) → ag [7, 8, 9, 10, 11, 12, 13] m m' → Q none (wd z m') n) : AW mX5_copyFrom Q 0 (am_ent (am_l mX5_copyFrom) [.ref 7, .ref q]) [] (wd z m) n 0 0 := by
  show AW _ _ 0 [some (.ref 7), some (.ref q), none] [] _ _ 0 0
  refine r_aload_n 1 rfl 0 dX5_copyFrom_0 rfl rfl ?_
  refine r_aload_n 2 rfl 1 dX5_copyFrom_1 rfl rfl ?_
  refine r_getf (v := .int 0) (k := 0) 5 rfl dX5_copyFrom_2 (gf_X5_31_5 rfl) (wd_dy hq hz0) rfl ?_
  refine w_putf 8 rfl (k := 0) (va_up m 7 (upd (m 7) 0 0)) dX5_copyFrom_5 (pf_X5_31_5 rfl) (by decide) (by decide) rfl (Nat.le_of_ble_eq_true rfl) rfl ⟨rfl, rfl⟩ rfl ?_
  refine r_iconst 9 rfl 0 dX5_copyFrom_8 rfl ?_
  refine r_istore_n 10 rfl 2 [some (.ref 7), some (.ref q), some (.int 0)] dX5_copyFrom_9 rfl (by decide) rfl ?_
  refine lp_c_cf_7_q hq hz0 hz1 hz2 hz3 hz4 hz5 hz6 (fun m1 g0 g1 g2 hag => ?_) 6 0 rfl (va_up m 7 (upd (m 7) 0 0)) rfl (fun j hj => absurd hj (Nat.not_lt_zero j)) (fun j hj => absurd hj (Nat.not_lt_zero j)) (ag_up (ag_r _ _) (by decide))
  refine r_aload_n 47 rfl 0 dX5_copyFrom_46 rfl rfl ?_
  refine r_aload_n 48 rfl 1 dX5_copyFrom_47 rfl rfl ?_
  refine r_getf (v := .int 0) (k := 3) 51 rfl dX5_copyFrom_48 (gf_X5_35_5 rfl) (wd_dy hq hz0) rfl ?_
  refine w_putf 54 rfl (k := 3) (va_up m1 7 (upd (m1 7) 3 0)) dX5_copyFrom_51 (pf_X5_35_5 rfl) (by decide) (by decide) rfl (Nat.le_of_ble_eq_true rfl) rfl ⟨rfl, rfl⟩ rfl ?_
  refine r_aload_n 55 rfl 0 dX5_copyFrom_54 rfl rfl ?_
  refine r_aload_n 56 rfl 1 dX5_copyFrom_55 rfl rfl ?_
  refine r_getf (v := .int 0) (k := 4) 59 rfl dX5_copyFrom_56 (gf_X5_38_5 rfl) (wd_dy hq hz0) rfl ?_
  refine w_putf 62 rfl (k := 4) (va_up (va_up m1 7 (upd (m1 7) 3 0)) 7 (upd (upd (m1 7) 3 0) 4 0)) dX5_copyFrom_59 (pf_X5_38_5 rfl) (by decide) (by decide) rfl (Nat.le_of_ble_eq_true rfl) rfl ⟨rfl, rfl⟩ rfl ?_
  refine r_aload_n 63 rfl 0 dX5_copyFrom_62 rfl rfl ?_
  refine r_aload_n 64 rfl 1 dX5_copyFrom_63 rfl rfl ?_
  refine r_getf (v := .int 0) (k := 5) 67 rfl dX5_copyFrom_64 (gf_X5_42_5 rfl) (wd_dy hq hz0) rfl ?_
  refine w_putf 70 rfl (k := 5) (va_up (va_up (va_up m1 7 (upd (m1 7) 3 0)) 7 (upd (upd (m1 7) 3 0) 4 0)) 7 (upd (upd (upd (m1 7) 3 0) 4 0) 5 0)) dX5_copyFrom_67 (pf_X5_42_5 rfl) (by decide) (by decide) rfl (Nat.le_of_ble_eq_true rfl) rfl ⟨rfl, rfl⟩ rfl ?_
  refine r_aload_n 71 rfl 1 dX5_copyFrom_70 rfl rfl ?_
  refine r_getf (v := .ref (q + 3)) (k := 6) 74 rfl dX5_copyFrom_71 (gf_X5_19_5 rfl) (wd_dy hq hz0) rfl ?_
  refine r_iconst 75 rfl 0 dX5_copyFrom_74 rfl ?_
  refine r_aload_n 76 rfl 0 dX5_copyFrom_75 rfl rfl ?_
  refine r_getf (v := .ref 10) (k := 6) 79 rfl dX5_copyFrom_76 (gf_X5_19_5 rfl) rfl rfl ?_
  refine r_iconst 80 rfl 0 dX5_copyFrom_79 rfl ?_
  refine r_bipush 82 rfl 8 dX5_copyFrom_80 (by decide) ?_
  refine w_copy 85 rfl dX5_copyFrom_82 (lk_X5_45 rfl) (by omega) (by decide) (by decide) (wd_dy (by omega) hz3) (fun _ => rfl) rfl (by decide) (by decide) (Nat.le_of_ble_eq_true rfl) (va_up (va_up (va_up (va_up m1 7 (upd (m1 7) 3 0)) 7 (upd (upd (m1 7) 3 0) 4 0)) 7 (upd (upd (upd (m1 7) 3 0) 4 0) 5 0)) 10 (va_cpy (fun _ => 0) (m1 10) 0 0 8)) rfl ?_
  refine r_aload_n 86 rfl 1 dX5_copyFrom_85 rfl rfl ?_
  refine r_getf (v := .ref (q + 4)) (k := 7) 89 rfl dX5_copyFrom_86 (gf_X5_22_5 rfl) (wd_dy hq hz0) rfl ?_
  refine r_iconst 90 rfl 0 dX5_copyFrom_89 rfl ?_
  refine r_aload_n 91 rfl 0 dX5_copyFrom_90 rfl rfl ?_
  refine r_getf (v := .ref 11) (k := 7) 94 rfl dX5_copyFrom_91 (gf_X5_22_5 rfl) rfl rfl ?_
  refine r_iconst 95 rfl 0 dX5_copyFrom_94 rfl ?_
  refine r_iconst 96 rfl 3 dX5_copyFrom_95 rfl ?_
  refine w_copy 99 rfl dX5_copyFrom_96 (lk_X5_45 rfl) (by omega) (by decide) (by decide) (wd_dy (by omega) hz4) (fun _ => rfl) rfl (by decide) (by decide) (Nat.le_of_ble_eq_true rfl) (va_up (va_up (va_up (va_up (va_up m1 7 (upd (m1 7) 3 0)) 7 (upd (upd (m1 7) 3 0) 4 0)) 7 (upd (upd (upd (m1 7) 3 0) 4 0) 5 0)) 10 (va_cpy (fun _ => 0) (m1 10) 0 0 8)) 11 (va_cpy (fun _ => 0) (m1 11) 0 0 3)) rfl ?_
  refine r_aload_n 100 rfl 0 dX5_copyFrom_99 rfl rfl ?_
  refine r_aload_n 101 rfl 1 dX5_copyFrom_100 rfl rfl ?_
  refine r_getf (v := .int 0) (k := 8) 104 rfl dX5_copyFrom_101 (gf_X5_51_5 rfl) (wd_dy hq hz0) rfl ?_
  refine w_putf 107 rfl (k := 8) (va_up (va_up (va_up (va_up (va_up (va_up m1 7 (upd (m1 7) 3 0)) 7 (upd (upd (m1 7) 3 0) 4 0)) 7 (upd (upd (upd (m1 7) 3 0) 4 0) 5 0)) 10 (va_cpy (fun _ => 0) (m1 10) 0 0 8)) 11 (va_cpy (fun _ => 0) (m1 11) 0 0 3)) 7 (upd (upd (upd (upd (m1 7) 3 0) 4 0) 5 0) 8 0)) dX5_copyFrom_104 (pf_X5_51_5 rfl) (by decide) (by decide) rfl (Nat.le_of_ble_eq_true rfl) rfl ⟨rfl, rfl⟩ rfl ?_
  refine r_aload_n 108 rfl 1 dX5_copyFrom_107 rfl rfl ?_
  refine r_getf (v := .ref (q + 5)) (k := 9) 111 rfl dX5_copyFrom_108 (gf_X5_25_5 rfl) (wd_dy hq hz0) rfl ?_
  refine r_iconst 112 rfl 0 dX5_copyFrom_111 rfl ?_
  refine r_aload_n 113 rfl 0 dX5_copyFrom_112 rfl rfl ?_
  refine r_getf (v := .ref 12) (k := 9) 116 rfl dX5_copyFrom_113 (gf_X5_25_5 rfl) rfl rfl ?_
  refine r_iconst 117 rfl 0 dX5_copyFrom_116 rfl ?_
  refine r_bipush 119 rfl 8 dX5_copyFrom_117 (by decide) ?_
  refine w_copy 122 rfl dX5_copyFrom_119 (lk_X5_45 rfl) (by omega) (by decide) (by decide) (wd_dy (by omega) hz5) (fun _ => rfl) rfl (by decide) (by decide) (Nat.le_of_ble_eq_true rfl) (va_up (va_up (va_up (va_up (va_up (va_up (va_up m1 7 (upd (m1 7) 3 0)) 7 (upd (upd (m1 7) 3 0) 4 0)) 7 (upd (upd (upd (m1 7) 3 0) 4 0) 5 0)) 10 (va_cpy (fun _ => 0) (m1 10) 0 0 8)) 11 (va_cpy (fun _ => 0) (m1 11) 0 0 3)) 7 (upd (upd (upd (upd (m1 7) 3 0) 4 0) 5 0) 8 0)) 12 (va_cpy (fun _ => 0) (m1 12) 0 0 8)) rfl ?_
  refine r_aload_n 123 rfl 1 dX5_copyFrom_122 rfl rfl ?_
  refine r_getf (v := .ref (q + 6)) (k := 10) 126 rfl dX5_copyFrom_123 (gf_X5_28_5 rfl) (wd_dy hq hz0) rfl ?_
  refine r_iconst 127 rfl 0 dX5_copyFrom_126 rfl ?_
  refine r_aload_n 128 rfl 0 dX5_copyFrom_127 rfl rfl ?_
  refine r_getf (v := .ref 13) (k := 10) 131 rfl dX5_copyFrom_128 (gf_X5_28_5 rfl) rfl rfl ?_
  refine r_iconst 132 rfl 0 dX5_copyFrom_131 rfl ?_
  refine r_bipush 134 rfl 8 dX5_copyFrom_132 (by decide) ?_
  refine w_copy 137 rfl dX5_copyFrom_134 (lk_X5_45 rfl) (by omega) (by decide) (by decide) (wd_dy (by omega) hz6) (fun _ => rfl) rfl (by decide) (by decide) (Nat.le_of_ble_eq_true rfl) (va_up (va_up (va_up (va_up (va_up (va_up (va_up (va_up m1 7 (upd (m1 7) 3 0)) 7 (upd (upd (m1 7) 3 0) 4 0)) 7 (upd (upd (upd (m1 7) 3 0) 4 0) 5 0)) 10 (va_cpy (fun _ => 0) (m1 10) 0 0 8)) 11 (va_cpy (fun _ => 0) (m1 11) 0 0 3)) 7 (upd (upd (upd (upd (m1 7) 3 0) 4 0) 5 0) 8 0)) 12 (va_cpy (fun _ => 0) (m1 12) 0 0 8)) 13 (va_cpy (fun _ => 0) (m1 13) 0 0 8)) rfl ?_
  refine r_return rfl dX5_copyFrom_137 (Nat.le_of_ble_eq_true rfl) (Nat.le_of_ble_eq_true rfl) ?_
  refine k _ ⟨?_, ?_, ?_, ?_, ?_⟩ g1 g2 (fun j hj => ?_) (fun j hj => ?_) (fun j hj => ?_) (fun j hj => ?_) (fun x hx => ?_)
  · show m1 7 0 = _; rw [g0]; rfl
  · rfl
  · rfl
  · rfl
  · rfl
  · show va_cpy (fun _ => 0) (m1 10) 0 0 8 j = _; unfold va_cpy; rw [if_pos ⟨Nat.zero_le j, by omega⟩, Nat.sub_zero, Nat.zero_add]
  · show va_cpy (fun _ => 0) (m1 11) 0 0 3 j = _; unfold va_cpy; rw [if_pos ⟨Nat.zero_le j, by omega⟩, Nat.sub_zero, Nat.zero_add]
  · show va_cpy (fun _ => 0) (m1 12) 0 0 8 j = _; unfold va_cpy; rw [if_pos ⟨Nat.zero_le j, by omega⟩, Nat.sub_zero, Nat.zero_add]
  · show va_cpy (fun _ => 0) (m1 13) 0 0 8 j = _; unfold va_cpy; rw [if_pos ⟨Nat.zero_le j, by omega⟩, Nat.sub_zero, Nat.zero_add]
  · have hx' := hx
    simp only [List.mem_cons, List.not_mem_nil, or_false, not_or] at hx'
    obtain ⟨x0, x1, x2, x3, x4, x5, x6⟩ := hx'
    have e0 : m1 x = m x := hag x (by simp [x0, x1, x2])
    simp only [va_up, if_neg x0, if_neg x3, if_neg x4, if_neg x5, if_neg x6]
    exact e0

set_option maxHeartbeats 4000000 in
set_option maxRecDepth 20000 in
theorem c_isValley_t {Q : am_P} {z : am_Z} {m : Nat → Nat → Int32} {n : Nat} (hpm : m 2 1 = nI 11) (hw : pg_fw (m 3) 11 0 = 11) (k : Q (some (.int 1)) (wd z m) n) : AW mX3_isValley Q 0 (am_ent (am_l mX3_isValley) [.ref 2]) [] (wd z m) n 0 0 := by
  show AW _ _ 0 [some (.ref 2)] [] _ _ 0 0
  refine r_aload_n 1 rfl 0 dX3_isValley_0 rfl rfl ?_
  refine r_getf (v := .int ((m 2) 1)) (k := 1) 4 rfl dX3_isValley_1 (gf_X3_15_3 rfl) rfl rfl ?_
  rw [show (m 2) 1 = nI 11 from hpm]
  refine r_bipush 6 rfl 11 dX3_isValley_4 (by decide) ?_
  refine r_icmp_ne 9 24 rfl dX3_isValley_6 rfl (fun q__ => absurd ((nI_eq (a := 11) (b := 11) (by omega) (by omega)).mpr (by omega)) q__) (fun _ => ?_)
  refine r_aload_n 10 rfl 0 dX3_isValley_9 rfl rfl ?_
  refine q_V 13 0 0 rfl [] rfl dX3_isValley_10 cl_X3_isValley__X3_firstWrong (lk_X3_27 rfl) im_X3_firstWrong (ci := 3) rfl sl_X3__X3_firstWrong rfl (Nat.le_of_ble_eq_true rfl) (fun _ _ => Nat.le_of_ble_eq_true rfl) rfl rfl (Nat.le_of_ble_eq_true rfl) (Nat.le_of_ble_eq_true rfl) ?_
  refine c_X3_firstWrong hpm (by decide) (k_i ?_)
  refine r_aload_n 14 rfl 0 dX3_isValley_13 rfl rfl ?_
  refine r_getf (v := .int ((m 2) 1)) (k := 1) 17 rfl dX3_isValley_14 (gf_X3_15_3 rfl) rfl rfl ?_
  rw [show (m 2) 1 = nI 11 from hpm]
  refine r_icmp_ne 20 24 rfl dX3_isValley_17 rfl (fun q__ => absurd ((nI_eq (a := (pg_fw (m 3) 11 0)) (b := 11) (by omega) (by omega)).mpr (by omega)) q__) (fun _ => ?_)
  refine r_iconst 21 rfl 1 dX3_isValley_20 rfl ?_
  refine r_goto 25 dX3_isValley_21 rfl ?_
  refine r_zreturn rfl rfl dX3_isValley_25 (Nat.le_of_ble_eq_true rfl) (Nat.le_of_ble_eq_true rfl) ?_
  exact k

set_option maxHeartbeats 4000000 in
set_option maxRecDepth 20000 in
theorem c_isValley_f1 {Q : am_P} {z : am_Z} {m : Nat → Nat → Int32} {n : Nat} {pm : Nat} (hpm : m 2 1 = nI pm) (hp : pm ≤ 14) (hne : ¬ pm = 11) (k : Q (some (.int 0)) (wd z m) n) : AW mX3_isValley Q 0 (am_ent (am_l mX3_isValley) [.ref 2]) [] (wd z m) n 0 0 := by
  show AW _ _ 0 [some (.ref 2)] [] _ _ 0 0
  refine r_aload_n 1 rfl 0 dX3_isValley_0 rfl rfl ?_
  refine r_getf (v := .int ((m 2) 1)) (k := 1) 4 rfl dX3_isValley_1 (gf_X3_15_3 rfl) rfl rfl ?_
  rw [show (m 2) 1 = nI pm from hpm]
  refine r_bipush 6 rfl 11 dX3_isValley_4 (by decide) ?_
  refine r_icmp_ne 9 24 rfl dX3_isValley_6 rfl (fun _ => ?_) (fun q__ => absurd q__ (fun q__ => absurd ((nI_eq (a := pm) (b := 11) (by omega) (by omega)).mp q__) (by omega)))
  refine r_iconst 25 rfl 0 dX3_isValley_24 rfl ?_
  refine r_zreturn rfl rfl dX3_isValley_25 (Nat.le_of_ble_eq_true rfl) (Nat.le_of_ble_eq_true rfl) ?_
  exact k

set_option maxHeartbeats 4000000 in
set_option maxRecDepth 20000 in
theorem c_isValley_f2 {Q : am_P} {z : am_Z} {m : Nat → Nat → Int32} {n : Nat} (hpm : m 2 1 = nI 11) (hw : ¬ pg_fw (m 3) 11 0 = 11) (k : Q (some (.int 0)) (wd z m) n) : AW mX3_isValley Q 0 (am_ent (am_l mX3_isValley) [.ref 2]) [] (wd z m) n 0 0 := by
  show AW _ _ 0 [some (.ref 2)] [] _ _ 0 0
  have hle := (pg_fw_le (m 3) 11 0).2
  refine r_aload_n 1 rfl 0 dX3_isValley_0 rfl rfl ?_
  refine r_getf (v := .int ((m 2) 1)) (k := 1) 4 rfl dX3_isValley_1 (gf_X3_15_3 rfl) rfl rfl ?_
  rw [show (m 2) 1 = nI 11 from hpm]
  refine r_bipush 6 rfl 11 dX3_isValley_4 (by decide) ?_
  refine r_icmp_ne 9 24 rfl dX3_isValley_6 rfl (fun q__ => absurd ((nI_eq (a := 11) (b := 11) (by omega) (by omega)).mpr (by omega)) q__) (fun _ => ?_)
  refine r_aload_n 10 rfl 0 dX3_isValley_9 rfl rfl ?_
  refine q_V 13 0 0 rfl [] rfl dX3_isValley_10 cl_X3_isValley__X3_firstWrong (lk_X3_27 rfl) im_X3_firstWrong (ci := 3) rfl sl_X3__X3_firstWrong rfl (Nat.le_of_ble_eq_true rfl) (fun _ _ => Nat.le_of_ble_eq_true rfl) rfl rfl (Nat.le_of_ble_eq_true rfl) (Nat.le_of_ble_eq_true rfl) ?_
  refine c_X3_firstWrong hpm (by decide) (k_i ?_)
  refine r_aload_n 14 rfl 0 dX3_isValley_13 rfl rfl ?_
  refine r_getf (v := .int ((m 2) 1)) (k := 1) 17 rfl dX3_isValley_14 (gf_X3_15_3 rfl) rfl rfl ?_
  rw [show (m 2) 1 = nI 11 from hpm]
  refine r_icmp_ne 20 24 rfl dX3_isValley_17 rfl (fun _ => ?_) (fun q__ => absurd q__ (fun q__ => absurd ((nI_eq (a := (pg_fw (m 3) 11 0)) (b := 11) (by omega) (by omega)).mp q__) (by omega)))
  refine r_iconst 25 rfl 0 dX3_isValley_24 rfl ?_
  refine r_zreturn rfl rfl dX3_isValley_25 (Nat.le_of_ble_eq_true rfl) (Nat.le_of_ble_eq_true rfl) ?_
  exact k

def gn (c : Int32) : Nat := if c = 35 then 1 else if c = 119 then 2 else 0
theorem gn_46 : gn 46 = 0 := rfl
theorem gn_35 : gn 35 = 1 := rfl
theorem gn_119 : gn 119 = 2 := rfl
theorem gn_le (c : Int32) : gn c ≤ 2 := by unfold gn; split; · decide
                                           · split <;> decide
theorem pl_lt {c : Nat} (h : c < 8) : pg_pl c < 10 := by unfold pg_pl; split <;> omega
theorem pl_eq {c : Nat} (h : c < 8) : c + c / 4 = pg_pl c := by unfold pg_pl; split <;> omega
/-- what a page of a valley is -/
theorem pg_val {f : Nat → Int32} (h : pg_fw f 11 0 = 11) : (∀ c, c < 8 → f (pg_pl c) = 46 ∨ f (pg_pl c) = 35 ∨ f (pg_pl c) = 119) ∧ ∃ fd, 1 ≤ fd ∧ fd ≤ 3 ∧ f 10 = nI (48 + fd) := by
  have hall := pg_fw_all 11 0 h
  refine ⟨fun c hc => ?_, ?_⟩
  · have hp := pl_lt hc
    have hf := hall (pg_pl c) (Nat.zero_le _) (by omega)
    have h4 : ¬ pg_pl c = 4 := by unfold pg_pl; split <;> omega
    have h9 : ¬ pg_pl c = 9 := by unfold pg_pl; split <;> omega
    have h10 : ¬ pg_pl c = 10 := by omega
    unfold pg_fit at hf
    rw [if_neg h4, if_neg h9, if_neg h10, if_pos hp] at hf
    simp only [Bool.or_eq_true, beq_iff_eq] at hf
    rcases hf with (h | h) | h
    · exact Or.inl h
    · exact Or.inr (Or.inl h)
    · exact Or.inr (Or.inr h)
  · have hf := hall 10 (by decide) (by decide)
    have hf : (decide (49 ≤ f 10) && decide (f 10 ≤ 51)) = true := hf
    simp only [Bool.and_eq_true, decide_eq_true_eq] at hf
    have h1 := Int32.le_iff_toInt_le.mp hf.1
    have h2 := Int32.le_iff_toInt_le.mp hf.2
    have e1 : (49 : Int32).toInt = 49 := by decide
    have e2 : (51 : Int32).toInt = 51 := by decide
    rw [e1] at h1
    rw [e2] at h2
    refine ⟨(f 10).toInt.toNat - 48, by omega, by omega, ?_⟩
    apply Int32.toInt_inj.mp
    rw [nI_toInt (by omega)]
    omega

set_option maxHeartbeats 4000000 in
set_option maxRecDepth 20000 in
theorem c_placeOf {Q : am_P} {h : Nat → am_E} {n : Nat} {c : Nat} (hc : c < 8) (k : Q (some (.int (nI (pg_pl c)))) h n) : AW mX3_placeOf Q 0 (am_ent (am_l mX3_placeOf) [.int (nI c)]) [] (h) n 0 0 := by
  show AW _ _ 0 [some (.int (nI c))] [] _ _ 0 0
  refine r_iload_n 1 rfl 0 dX3_placeOf_0 rfl rfl ?_
  refine r_iconst 2 rfl 4 dX3_placeOf_1 rfl ?_
  refine r_icmp_ge 5 9 rfl dX3_placeOf_2 rfl (fun c2 => ?_) (fun c2 => ?_)
  · replace c2 : 4 ≤ c := (nI_leI (a := 4) (b := c) (by omega) (by omega)).mp c2
    rw [show pg_pl c = c + 1 from if_neg (by omega)] at k
    refine r_iload_n 10 rfl 0 dX3_placeOf_9 rfl rfl ?_
    refine r_iconst 11 rfl 1 dX3_placeOf_10 rfl ?_
    refine r_iadd 12 rfl dX3_placeOf_11 ?_
    rw [show (nI c) + 1 = nI (c + 1) from nI_add c 1]
    refine r_ireturn rfl dX3_placeOf_12 (Nat.le_of_ble_eq_true rfl) (Nat.le_of_ble_eq_true rfl) ?_
    exact k
  · replace c2 : ¬ 4 ≤ c := fun q__ => c2 ((nI_leI (a := 4) (b := c) (by omega) (by omega)).mpr q__)
    rw [show pg_pl c = c from if_pos (by omega)] at k
    refine r_iload_n 6 rfl 0 dX3_placeOf_5 rfl rfl ?_
    refine r_goto 12 dX3_placeOf_6 rfl ?_
    refine r_ireturn rfl dX3_placeOf_12 (Nat.le_of_ble_eq_true rfl) (Nat.le_of_ble_eq_true rfl) ?_
    exact k

set_option maxHeartbeats 4000000 in
set_option maxRecDepth 20000 in
theorem lp_take {Q : am_P} {z : am_Z} {m : Nat → Nat → Int32} {n : Nat} (hl : ∀ c, c < 8 → m 3 (pg_pl c) = 46 ∨ m 3 (pg_pl c) = 35 ∨ m 3 (pg_pl c) = 119) (kx : ∀ m', m' 4 1 = nI (cnt0 (fun j => nI (gn (m 3 (pg_pl j)))) 8) → (∀ j, j < 8 → m' 5 j = nI (gn (m 3 (pg_pl j)))) → ag [4, 5] m m' → AW mX7_take Q 72 [some (.ref 4), some (.ref 2), none, none] [] (wd z m') n 0 0) : ∀ (d c : Nat), c + d = 8 → ∀ m', m' 4 1 = nI (cnt0 (fun j => nI (gn (m 3 (pg_pl j)))) c) → (∀ j, j < c → m' 5 j = nI (gn (m 3 (pg_pl j)))) → ag [4, 5] m m' → AW mX7_take Q 7 [some (.ref 4), some (.ref 2), some (.int (nI c)), none] [] (wd z m') n 0 0 := by
  intro d
  induction d with
  | zero =>
    intro c hc m' h1 h2 hag
    obtain rfl : c = 8 := by omega
    refine r_iload_n 8 rfl 2 dX7_take_7 rfl rfl ?_
    refine r_bipush 10 rfl 8 dX7_take_8 (by decide) ?_
    refine r_icmp_ge 13 72 rfl dX7_take_10 rfl (fun _ => ?_) (fun q__ => absurd ((nI_leI (a := 8) (b := 8) (by omega) (by omega)).mpr (by omega)) q__)
    refine AW.drop 2 [some (.ref 4), some (.ref 2), none, none] rfl ?_
    exact kx m' h1 h2 hag
  | succ d ih =>
    intro c hc m' h1 h2 hag
    have hpl := pl_lt (show c < 8 by omega)
    have hcn := cnt0_le (fun j => nI (gn (m 3 (pg_pl j)))) c
    have e1 : cnt0 (fun j => nI (gn (m 3 (pg_pl j)))) (c + 1) = cnt0 (fun j => nI (gn (m 3 (pg_pl j)))) c + (if nI (gn (m 3 (pg_pl c))) = 0 then 1 else 0) := rfl
    rcases hl c (by omega) with hv | hv | hv
    · have hv' : m' 3 (pg_pl c) = 46 := by rw [hag 3 (by decide)]; exact hv
      refine r_iload_n 8 rfl 2 dX7_take_7 rfl rfl ?_
      refine r_bipush 10 rfl 8 dX7_take_8 (by decide) ?_
      refine r_icmp_ge 13 72 rfl dX7_take_10 rfl (fun q__ => absurd q__ (fun q__ => absurd ((nI_leI (a := 8) (b := c) (by omega) (by omega)).mp q__) (by omega))) (fun _ => ?_)
      refine r_aload_n 14 rfl 1 dX7_take_13 rfl rfl ?_
      refine r_getf (v := .ref 3) (k := 0) 17 rfl dX7_take_14 (gf_X7_22_3 rfl) rfl rfl ?_
      refine r_iload_n 18 rfl 2 dX7_take_17 rfl rfl ?_
      refine q_S 21 0 0 rfl [.int (nI c)] rfl dX7_take_18 cl_X7_take__X3_placeOf (lk_X7_27 rfl) st_X3_placeOf (Nat.le_of_ble_eq_true rfl) (fun _ _ => Nat.le_of_ble_eq_true rfl) rfl rfl (Nat.le_of_ble_eq_true rfl) (Nat.le_of_ble_eq_true rfl) ?_
      refine c_placeOf (by omega) (k_i ?_)
      refine r_iald (f := m' 3) 22 rfl (pg_pl c) dX7_take_21 rfl rfl (by omega) (by decide) ?_
      rw [show (m' 3) (pg_pl c) = 46 from hv']
      refine r_istore_n 23 rfl 3 [some (.ref 4), some (.ref 2), some (.int (nI c)), some (.int 46)] dX7_take_22 rfl (by decide) rfl ?_
      refine r_aload_n 24 rfl 0 dX7_take_23 rfl rfl ?_
      refine r_getf (v := .ref 5) (k := 0) 27 rfl dX7_take_24 (gf_X7_9_7 rfl) rfl rfl ?_
      refine r_iload_n 28 rfl 2 dX7_take_27 rfl rfl ?_
      refine r_iload_n 29 rfl 3 dX7_take_28 rfl rfl ?_
      refine r_bipush 31 rfl 35 dX7_take_29 (by decide) ?_
      refine r_icmp_ne 34 38 rfl dX7_take_31 rfl (fun _ => ?_) (fun q__ => absurd q__ (by decide))
      refine r_iload_n 39 rfl 3 dX7_take_38 rfl rfl ?_
      refine r_bipush 41 rfl 119 dX7_take_39 (by decide) ?_
      refine r_icmp_ne 44 48 rfl dX7_take_41 rfl (fun _ => ?_) (fun q__ => absurd q__ (by decide))
      refine r_iconst 49 rfl 0 dX7_take_48 rfl ?_
      refine w_iast 50 rfl c (va_up m' 5 (upd (m' 5) c 0)) dX7_take_49 (by decide) (by decide) (fun _ => rfl) rfl (by omega) (by decide) rfl ?_
      refine r_iload_n 51 rfl 3 dX7_take_50 rfl rfl ?_
      refine r_bipush 53 rfl 46 dX7_take_51 (by decide) ?_
      refine r_icmp_ne 56 66 rfl dX7_take_53 rfl (fun q__ => absurd (by decide) q__) (fun _ => ?_)
      refine r_aload_n 57 rfl 0 dX7_take_56 rfl rfl ?_
      refine r_dup 58 rfl dX7_take_57 rfl ?_
      refine r_getf (v := .int ((m' 4) 1)) (k := 1) 61 rfl dX7_take_58 (gf_X7_19_7 rfl) rfl rfl ?_
      rw [show (m' 4) 1 = nI (cnt0 (fun j => nI (gn (m 3 (pg_pl j)))) c) from h1]
      refine r_iconst 62 rfl 1 dX7_take_61 rfl ?_
      refine r_iadd 63 rfl dX7_take_62 ?_
      rw [show (nI (cnt0 (fun j => nI (gn (m 3 (pg_pl j)))) c)) + 1 = nI ((cnt0 (fun j => nI (gn (m 3 (pg_pl j)))) c) + 1) from nI_add (cnt0 (fun j => nI (gn (m 3 (pg_pl j)))) c) 1]
      refine w_putf 66 rfl (k := 1) (va_up (va_up m' 5 (upd (m' 5) c 0)) 4 (upd (m' 4) 1 (nI ((cnt0 (fun j => nI (gn (m 3 (pg_pl j)))) c) + 1)))) dX7_take_63 (pf_X7_19_7 rfl) (by decide) (by decide) rfl (Nat.le_of_ble_eq_true rfl) rfl ⟨rfl, rfl⟩ rfl ?_
      refine r_iinc 69 rfl (nI (c + 1)) [some (.ref 4), some (.ref 2), some (.int (nI (c + 1))), some (.int 46)] dX7_take_66 rfl (nI_1 _) (by decide) rfl ?_
      refine r_goto 7 dX7_take_69 rfl ?_
      refine AW.drop 3 [some (.ref 4), some (.ref 2), some (.int (nI (c + 1))), none] rfl ?_
      refine ih (c + 1) (by omega) _ ?_ (fun j hj => ?_) (ag_up (ag_up hag (by decide)) (by decide))
      · rw [hv] at e1
        rw [show cnt0 (fun j => nI (gn (m 3 (pg_pl j)))) (c + 1) = cnt0 (fun j => nI (gn (m 3 (pg_pl j)))) c + 1 from e1]
        rfl
      · show upd (m' 5) c 0 j = _; unfold upd
        by_cases hjc : j = c
        · rw [if_pos hjc, hjc, hv]; rfl
        · rw [if_neg hjc]; exact h2 j (by omega)
    · have hv' : m' 3 (pg_pl c) = 35 := by rw [hag 3 (by decide)]; exact hv
      refine r_iload_n 8 rfl 2 dX7_take_7 rfl rfl ?_
      refine r_bipush 10 rfl 8 dX7_take_8 (by decide) ?_
      refine r_icmp_ge 13 72 rfl dX7_take_10 rfl (fun q__ => absurd q__ (fun q__ => absurd ((nI_leI (a := 8) (b := c) (by omega) (by omega)).mp q__) (by omega))) (fun _ => ?_)
      refine r_aload_n 14 rfl 1 dX7_take_13 rfl rfl ?_
      refine r_getf (v := .ref 3) (k := 0) 17 rfl dX7_take_14 (gf_X7_22_3 rfl) rfl rfl ?_
      refine r_iload_n 18 rfl 2 dX7_take_17 rfl rfl ?_
      refine q_S 21 0 0 rfl [.int (nI c)] rfl dX7_take_18 cl_X7_take__X3_placeOf (lk_X7_27 rfl) st_X3_placeOf (Nat.le_of_ble_eq_true rfl) (fun _ _ => Nat.le_of_ble_eq_true rfl) rfl rfl (Nat.le_of_ble_eq_true rfl) (Nat.le_of_ble_eq_true rfl) ?_
      refine c_placeOf (by omega) (k_i ?_)
      refine r_iald (f := m' 3) 22 rfl (pg_pl c) dX7_take_21 rfl rfl (by omega) (by decide) ?_
      rw [show (m' 3) (pg_pl c) = 35 from hv']
      refine r_istore_n 23 rfl 3 [some (.ref 4), some (.ref 2), some (.int (nI c)), some (.int 35)] dX7_take_22 rfl (by decide) rfl ?_
      refine r_aload_n 24 rfl 0 dX7_take_23 rfl rfl ?_
      refine r_getf (v := .ref 5) (k := 0) 27 rfl dX7_take_24 (gf_X7_9_7 rfl) rfl rfl ?_
      refine r_iload_n 28 rfl 2 dX7_take_27 rfl rfl ?_
      refine r_iload_n 29 rfl 3 dX7_take_28 rfl rfl ?_
      refine r_bipush 31 rfl 35 dX7_take_29 (by decide) ?_
      refine r_icmp_ne 34 38 rfl dX7_take_31 rfl (fun q__ => absurd (by decide) q__) (fun _ => ?_)
      refine r_iconst 35 rfl 1 dX7_take_34 rfl ?_
      refine r_goto 49 dX7_take_35 rfl ?_
      refine w_iast 50 rfl c (va_up m' 5 (upd (m' 5) c 1)) dX7_take_49 (by decide) (by decide) (fun _ => rfl) rfl (by omega) (by decide) rfl ?_
      refine r_iload_n 51 rfl 3 dX7_take_50 rfl rfl ?_
      refine r_bipush 53 rfl 46 dX7_take_51 (by decide) ?_
      refine r_icmp_ne 56 66 rfl dX7_take_53 rfl (fun _ => ?_) (fun q__ => absurd q__ (by decide))
      refine r_iinc 69 rfl (nI (c + 1)) [some (.ref 4), some (.ref 2), some (.int (nI (c + 1))), some (.int 35)] dX7_take_66 rfl (nI_1 _) (by decide) rfl ?_
      refine r_goto 7 dX7_take_69 rfl ?_
      refine AW.drop 3 [some (.ref 4), some (.ref 2), some (.int (nI (c + 1))), none] rfl ?_
      refine ih (c + 1) (by omega) _ ?_ (fun j hj => ?_) (ag_up hag (by decide))
      · rw [hv] at e1
        rw [show cnt0 (fun j => nI (gn (m 3 (pg_pl j)))) (c + 1) = cnt0 (fun j => nI (gn (m 3 (pg_pl j)))) c from e1]
        exact h1
      · show upd (m' 5) c 1 j = _; unfold upd
        by_cases hjc : j = c
        · rw [if_pos hjc, hjc, hv]; rfl
        · rw [if_neg hjc]; exact h2 j (by omega)
    · have hv' : m' 3 (pg_pl c) = 119 := by rw [hag 3 (by decide)]; exact hv
      refine r_iload_n 8 rfl 2 dX7_take_7 rfl rfl ?_
      refine r_bipush 10 rfl 8 dX7_take_8 (by decide) ?_
      refine r_icmp_ge 13 72 rfl dX7_take_10 rfl (fun q__ => absurd q__ (fun q__ => absurd ((nI_leI (a := 8) (b := c) (by omega) (by omega)).mp q__) (by omega))) (fun _ => ?_)
      refine r_aload_n 14 rfl 1 dX7_take_13 rfl rfl ?_
      refine r_getf (v := .ref 3) (k := 0) 17 rfl dX7_take_14 (gf_X7_22_3 rfl) rfl rfl ?_
      refine r_iload_n 18 rfl 2 dX7_take_17 rfl rfl ?_
      refine q_S 21 0 0 rfl [.int (nI c)] rfl dX7_take_18 cl_X7_take__X3_placeOf (lk_X7_27 rfl) st_X3_placeOf (Nat.le_of_ble_eq_true rfl) (fun _ _ => Nat.le_of_ble_eq_true rfl) rfl rfl (Nat.le_of_ble_eq_true rfl) (Nat.le_of_ble_eq_true rfl) ?_
      refine c_placeOf (by omega) (k_i ?_)
      refine r_iald (f := m' 3) 22 rfl (pg_pl c) dX7_take_21 rfl rfl (by omega) (by decide) ?_
      rw [show (m' 3) (pg_pl c) = 119 from hv']
      refine r_istore_n 23 rfl 3 [some (.ref 4), some (.ref 2), some (.int (nI c)), some (.int 119)] dX7_take_22 rfl (by decide) rfl ?_
      refine r_aload_n 24 rfl 0 dX7_take_23 rfl rfl ?_
      refine r_getf (v := .ref 5) (k := 0) 27 rfl dX7_take_24 (gf_X7_9_7 rfl) rfl rfl ?_
      refine r_iload_n 28 rfl 2 dX7_take_27 rfl rfl ?_
      refine r_iload_n 29 rfl 3 dX7_take_28 rfl rfl ?_
      refine r_bipush 31 rfl 35 dX7_take_29 (by decide) ?_
      refine r_icmp_ne 34 38 rfl dX7_take_31 rfl (fun _ => ?_) (fun q__ => absurd q__ (by decide))
      refine r_iload_n 39 rfl 3 dX7_take_38 rfl rfl ?_
      refine r_bipush 41 rfl 119 dX7_take_39 (by decide) ?_
      refine r_icmp_ne 44 48 rfl dX7_take_41 rfl (fun q__ => absurd (by decide) q__) (fun _ => ?_)
      refine r_iconst 45 rfl 2 dX7_take_44 rfl ?_
      refine r_goto 49 dX7_take_45 rfl ?_
      refine w_iast 50 rfl c (va_up m' 5 (upd (m' 5) c 2)) dX7_take_49 (by decide) (by decide) (fun _ => rfl) rfl (by omega) (by decide) rfl ?_
      refine r_iload_n 51 rfl 3 dX7_take_50 rfl rfl ?_
      refine r_bipush 53 rfl 46 dX7_take_51 (by decide) ?_
      refine r_icmp_ne 56 66 rfl dX7_take_53 rfl (fun _ => ?_) (fun q__ => absurd q__ (by decide))
      refine r_iinc 69 rfl (nI (c + 1)) [some (.ref 4), some (.ref 2), some (.int (nI (c + 1))), some (.int 119)] dX7_take_66 rfl (nI_1 _) (by decide) rfl ?_
      refine r_goto 7 dX7_take_69 rfl ?_
      refine AW.drop 3 [some (.ref 4), some (.ref 2), some (.int (nI (c + 1))), none] rfl ?_
      refine ih (c + 1) (by omega) _ ?_ (fun j hj => ?_) (ag_up hag (by decide))
      · rw [hv] at e1
        rw [show cnt0 (fun j => nI (gn (m 3 (pg_pl j)))) (c + 1) = cnt0 (fun j => nI (gn (m 3 (pg_pl j)))) c from e1]
        exact h1
      · show upd (m' 5) c 2 j = _; unfold upd
        by_cases hjc : j = c
        · rw [if_pos hjc, hjc, hv]; rfl
        · rw [if_neg hjc]; exact h2 j (by omega)

set_option maxHeartbeats 4000000 in
set_option maxRecDepth 20000 in
theorem c_take {Q : am_P} {z : am_Z} {m : Nat → Nat → Int32} {n : Nat} (hl : ∀ c, c < 8 → m 3 (pg_pl c) = 46 ∨ m 3 (pg_pl c) = 35 ∨ m 3 (pg_pl c) = 119) {fd : Nat} (hfd : m 3 10 = nI (48 + fd)) (hf3 : fd ≤ 3) (k : ∀ m', m' 4 1 = nI (cnt0 (fun j => nI (gn (m 3 (pg_pl j)))) 8) → m' 4 2 = nI fd → (∀ j, j < 8 → m' 5 j = nI (gn (m 3 (pg_pl j)))) → ag [4, 5] m m' → Q none (wd z m') n) : AW mX7_take Q 0 (am_ent (am_l mX7_take) [.ref 4, .ref 2]) [] (wd z m) n 0 0 := by
  show AW _ _ 0 [some (.ref 4), some (.ref 2), none, none] [] _ _ 0 0
  refine r_aload_n 1 rfl 0 dX7_take_0 rfl rfl ?_
  refine r_iconst 2 rfl 0 dX7_take_1 rfl ?_
  refine w_putf 5 rfl (k := 1) (va_up m 4 (upd (m 4) 1 0)) dX7_take_2 (pf_X7_19_7 rfl) (by decide) (by decide) rfl (Nat.le_of_ble_eq_true rfl) rfl ⟨rfl, rfl⟩ rfl ?_
  refine r_iconst 6 rfl 0 dX7_take_5 rfl ?_
  refine r_istore_n 7 rfl 2 [some (.ref 4), some (.ref 2), some (.int 0), none] dX7_take_6 rfl (by decide) rfl ?_
  refine lp_take hl (fun m1 h1 h2 hag => ?_) 8 0 rfl _ rfl (fun j hj => absurd hj (Nat.not_lt_zero j)) (ag_up (ag_r _ _) (by decide))
  have e10 : m1 3 10 = nI (48 + fd) := by rw [hag 3 (by decide)]; exact hfd
  refine r_aload_n 73 rfl 0 dX7_take_72 rfl rfl ?_
  refine r_aload_n 74 rfl 1 dX7_take_73 rfl rfl ?_
  refine r_getf (v := .ref 3) (k := 0) 77 rfl dX7_take_74 (gf_X7_22_3 rfl) rfl rfl ?_
  refine r_bipush 79 rfl 10 dX7_take_77 (by decide) ?_
  refine r_iald (f := m1 3) 80 rfl 10 dX7_take_79 rfl rfl (by omega) (by decide) ?_
  rw [show (m1 3) 10 = nI (48 + fd) from e10]
  refine r_bipush 82 rfl 48 dX7_take_80 (by decide) ?_
  refine r_isub 83 rfl dX7_take_82 ?_
  rw [show (nI (48 + fd)) - 48 = nI fd from (pk_sub (a := 48 + fd) (b := 48) (by omega)).trans (by rw [show 48 + fd - 48 = fd by omega])]
  refine w_putf 86 rfl (k := 2) (va_up m1 4 (upd (m1 4) 2 (nI fd))) dX7_take_83 (pf_X7_15_7 rfl) (by decide) (by decide) rfl (Nat.le_of_ble_eq_true rfl) rfl ⟨rfl, rfl⟩ rfl ?_
  refine r_return rfl dX7_take_86 (Nat.le_of_ble_eq_true rfl) (Nat.le_of_ble_eq_true rfl) ?_
  exact k _ h1 rfl h2 (ag_up hag (by decide))
