theorem up_up {h : Nat → am_E} {q : Nat} {e e' : am_E} : va_up (va_up h q e) q e' = va_up h q e' := by
  funext x
  by_cases hx : x = q
  · subst hx; rw [va_up_self, va_up_self]
  · rw [va_up_ne _ _ hx, va_up_ne _ _ hx, va_up_ne _ _ hx]
theorem wc_eq (f : Nat → Int32) {z z' : am_Z} (h1 : z'.2.1 = z.2.1) (h2 : z'.2.2.2 = z.2.2.2) (k : Nat) : wc k f z' = wc k f z := by
  unfold wc
  rw [h1, h2]
def zn (z : am_Z) (q : Nat) (e : am_E) : am_Z := (z.1, z.2.1, va_up z.2.2.1 q e, z.2.2.2)
theorem wd_zn {z : am_Z} {m : Nat → Nat → Int32} {q : Nat} {e : am_E} (hq : 53 < q) : va_up (wd z m) q e = wd (zn z q e) m := by
  funext k
  by_cases hk : k = q
  · subst hk
    rw [va_up_self]
    unfold wd
    rw [if_neg (by omega), if_neg (by omega)]
    exact (va_up_self _ _ _).symm
  · rw [va_up_ne _ _ hk]
    unfold wd
    by_cases h0 : k = 0
    · rw [if_pos h0, if_pos h0]; rfl
    · rw [if_neg h0, if_neg h0]
      by_cases h53 : k ≤ 53
      · rw [if_pos h53, if_pos h53, wc_eq (z := z) (z' := zn z q e) _ rfl rfl]
      · rw [if_neg h53, if_neg h53]
        exact (va_up_ne z.2.2.1 e hk).symm
def zr (z : am_Z) (j q : Nat) : am_Z := (z.1, va_up z.2.1 j (some q), z.2.2)
theorem wc_zr (f : Nat → Int32) (z : am_Z) (j q : Nat) : ∀ k, k ≤ 53 → k ≠ 6 → wc k f (zr z j q) = wc k f z
  | 6, _, h => absurd rfl h
  | 0, _, _ => rfl
  | 1, _, _ => rfl
  | 2, _, _ => rfl
  | 3, _, _ => rfl
  | 4, _, _ => rfl
  | 5, _, _ => rfl
  | 7, _, _ => rfl
  | 8, _, _ => rfl
  | 9, _, _ => rfl
  | 10, _, _ => rfl
  | 11, _, _ => rfl
  | 12, _, _ => rfl
  | 13, _, _ => rfl
  | 14, _, _ => rfl
  | 15, _, _ => rfl
  | 16, _, _ => rfl
  | 17, _, _ => rfl
  | 18, _, _ => rfl
  | 19, _, _ => rfl
  | 20, _, _ => rfl
  | 21, _, _ => rfl
  | 22, _, _ => rfl
  | 23, _, _ => rfl
  | 24, _, _ => rfl
  | 25, _, _ => rfl
  | 26, _, _ => rfl
  | 27, _, _ => rfl
  | 28, _, _ => rfl
  | 29, _, _ => rfl
  | 30, _, _ => rfl
  | 31, _, _ => rfl
  | 32, _, _ => rfl
  | 33, _, _ => rfl
  | 34, _, _ => rfl
  | 35, _, _ => rfl
  | 36, _, _ => rfl
  | 37, _, _ => rfl
  | 38, _, _ => rfl
  | 39, _, _ => rfl
  | 40, _, _ => rfl
  | 41, _, _ => rfl
  | 42, _, _ => rfl
  | 43, _, _ => rfl
  | 44, _, _ => rfl
  | 45, _, _ => rfl
  | 46, _, _ => rfl
  | 47, _, _ => rfl
  | 48, _, _ => rfl
  | 49, _, _ => rfl
  | 50, _, _ => rfl
  | 51, _, _ => rfl
  | 52, _, _ => rfl
  | 53, _, _ => rfl
  | k + 54, h, _ => by omega
theorem wd_zr {z : am_Z} {m : Nat → Nat → Int32} {j q : Nat} : va_up (wd z m) 6 (.inr (.inl (6, va_up z.2.1 j (some q)))) = wd (zr z j q) m := by
  funext k
  by_cases hk : k = 6
  · subst hk
    rw [va_up_self]
    rfl
  · rw [va_up_ne _ _ hk]
    unfold wd
    by_cases h0 : k = 0
    · rw [if_pos h0, if_pos h0]; rfl
    · rw [if_neg h0, if_neg h0]
      by_cases h53 : k ≤ 53
      · rw [if_pos h53, if_pos h53, wc_zr _ _ _ _ k h53 hk]
      · rw [if_neg h53, if_neg h53]; rfl
theorem w_aast {M : am_M} {Q : am_P} {pc : Nat} {lv : List (Option Value)} {st : List Value} {z : am_Z} {m : Nat → Nat → Int32} {n cu su : Nat} (pc' : Nat) (hp : pc + 1 = pc') {q ci : Nat} {fs : List Value} {i : Int32} (j : Nat) (hd : decode (am_c M) pc = .ok (.aastore, 1)) (hi : i = nI j) (hj : j < 6) (hq : wd z m q = .inr (.inr (ci, fs))) (hci : am_sc ci = true) (kk : AW M Q pc' lv st (wd (zr z j q) m) n cu su) : AW M Q pc lv (.ref q :: .int i :: .ref 6 :: st) (wd z m) n cu su := by
  refine r_aast pc' hp j hd (N := 6) (f := z.2.1) rfl hi hj (by decide) hq hci ?_
  rw [wd_zr]
  exact kk

set_option maxHeartbeats 4000000 in
set_option maxRecDepth 20000 in
theorem c_i4_4 {Q : am_P} {h : Nat → am_E} {n : Nat} {q : Nat} {pa ce sg : Int32} (hq : h q = .inr (.inr (4, [.int 0, .int 0, .int 0]))) (k : Q none (va_up h q (.inr (.inr (4, [.int pa, .int ce, .int sg])))) n) : AW mX4_init Q 0 (am_ent (am_l mX4_init) [.ref q, .int pa, .int ce, .int sg]) [] (h) n 0 0 := by
  show AW _ _ 0 [some (.ref q), some (.int pa), some (.int ce), some (.int sg)] [] _ _ 0 0
  refine r_aload_n 1 rfl 0 dX4_init_0 rfl rfl ?_
  refine r_objInit 4 rfl dX4_init_1 (lk_X4_1 rfl) (by decide) (Nat.le_of_ble_eq_true rfl) ?_
  refine r_aload_n 5 rfl 0 dX4_init_4 rfl rfl ?_
  refine r_iload_n 6 rfl 1 dX4_init_5 rfl rfl ?_
  refine r_putf 9 rfl (k := 0) [.int pa, .int 0, .int 0] dX4_init_6 (pf_X4_7_4 rfl rfl) hq (Nat.le_of_ble_eq_true rfl) rfl (fun _ _ => ⟨rfl, rfl⟩) ?_
  refine r_aload_n 10 rfl 0 dX4_init_9 rfl rfl ?_
  refine r_iload_n 11 rfl 2 dX4_init_10 rfl rfl ?_
  refine r_putf 14 rfl (k := 1) [.int pa, .int ce, .int 0] dX4_init_11 (pf_X4_13_4 rfl rfl) up_s (Nat.le_of_ble_eq_true rfl) rfl (fun _ _ => ⟨rfl, rfl⟩) ?_
  refine r_aload_n 15 rfl 0 dX4_init_14 rfl rfl ?_
  refine r_iload_n 16 rfl 3 dX4_init_15 rfl rfl ?_
  refine r_putf 19 rfl (k := 2) [.int pa, .int ce, .int sg] dX4_init_16 (pf_X4_16_4 rfl rfl) up_s (Nat.le_of_ble_eq_true rfl) rfl (fun _ _ => ⟨rfl, rfl⟩) ?_
  refine r_return rfl dX4_init_19 (Nat.le_of_ble_eq_true rfl) (Nat.le_of_ble_eq_true rfl) ?_
  rw [up_up, up_up]
  exact k

set_option maxHeartbeats 4000000 in
set_option maxRecDepth 20000 in
theorem c_i4_1 {Q : am_P} {h : Nat → am_E} {n : Nat} {q : Nat} {pa ce sg : Int32} (hq : h q = .inr (.inr (1, [.int 0, .int 0, .int 0]))) (k : Q none (va_up h q (.inr (.inr (1, [.int pa, .int ce, .int sg])))) n) : AW mX4_init Q 0 (am_ent (am_l mX4_init) [.ref q, .int pa, .int ce, .int sg]) [] (h) n 0 0 := by
  show AW _ _ 0 [some (.ref q), some (.int pa), some (.int ce), some (.int sg)] [] _ _ 0 0
  refine r_aload_n 1 rfl 0 dX4_init_0 rfl rfl ?_
  refine r_objInit 4 rfl dX4_init_1 (lk_X4_1 rfl) (by decide) (Nat.le_of_ble_eq_true rfl) ?_
  refine r_aload_n 5 rfl 0 dX4_init_4 rfl rfl ?_
  refine r_iload_n 6 rfl 1 dX4_init_5 rfl rfl ?_
  refine r_putf 9 rfl (k := 0) [.int pa, .int 0, .int 0] dX4_init_6 (pf_X4_7_1 rfl rfl) hq (Nat.le_of_ble_eq_true rfl) rfl (fun _ _ => ⟨rfl, rfl⟩) ?_
  refine r_aload_n 10 rfl 0 dX4_init_9 rfl rfl ?_
  refine r_iload_n 11 rfl 2 dX4_init_10 rfl rfl ?_
  refine r_putf 14 rfl (k := 1) [.int pa, .int ce, .int 0] dX4_init_11 (pf_X4_13_1 rfl rfl) up_s (Nat.le_of_ble_eq_true rfl) rfl (fun _ _ => ⟨rfl, rfl⟩) ?_
  refine r_aload_n 15 rfl 0 dX4_init_14 rfl rfl ?_
  refine r_iload_n 16 rfl 3 dX4_init_15 rfl rfl ?_
  refine r_putf 19 rfl (k := 2) [.int pa, .int ce, .int sg] dX4_init_16 (pf_X4_16_1 rfl rfl) up_s (Nat.le_of_ble_eq_true rfl) rfl (fun _ _ => ⟨rfl, rfl⟩) ?_
  refine r_return rfl dX4_init_19 (Nat.le_of_ble_eq_true rfl) (Nat.le_of_ble_eq_true rfl) ?_
  rw [up_up, up_up]
  exact k

set_option maxHeartbeats 4000000 in
set_option maxRecDepth 20000 in
theorem c_i_X1_init_1 {Q : am_P} {h : Nat → am_E} {n : Nat} {q : Nat} {pa ce sg : Int32} (hq : h q = .inr (.inr (1, [.int 0, .int 0, .int 0]))) (k : Q none (va_up h q (.inr (.inr (1, [.int pa, .int ce, .int sg])))) n) : AW mX1_init Q 0 (am_ent (am_l mX1_init) [.ref q, .int pa, .int ce, .int sg]) [] (h) n 0 0 := by
  show AW _ _ 0 [some (.ref q), some (.int pa), some (.int ce), some (.int sg)] [] _ _ 0 0
  refine r_aload_n 1 rfl 0 dX1_init_0 rfl rfl ?_
  refine r_iload_n 2 rfl 1 dX1_init_1 rfl rfl ?_
  refine r_iload_n 3 rfl 2 dX1_init_2 rfl rfl ?_
  refine r_iload_n 4 rfl 3 dX1_init_3 rfl rfl ?_
  refine q_I 7 0 0 rfl [.int pa, .int ce, .int sg] rfl dX1_init_4 cl_X1_init__X4_init (lk_X1_3 rfl) im_X4_init rfl rfl (Nat.le_of_ble_eq_true rfl) (fun _ _ => Nat.le_of_ble_eq_true rfl) rfl rfl (Nat.le_of_ble_eq_true rfl) (Nat.le_of_ble_eq_true rfl) ?_
  refine c_i4_1 hq (k_v ?_)
  refine r_return rfl dX1_init_7 (Nat.le_of_ble_eq_true rfl) (Nat.le_of_ble_eq_true rfl) ?_
  exact k

set_option maxHeartbeats 4000000 in
set_option maxRecDepth 20000 in
theorem c_i4_2 {Q : am_P} {h : Nat → am_E} {n : Nat} {q : Nat} {pa ce sg : Int32} (hq : h q = .inr (.inr (2, [.int 0, .int 0, .int 0]))) (k : Q none (va_up h q (.inr (.inr (2, [.int pa, .int ce, .int sg])))) n) : AW mX4_init Q 0 (am_ent (am_l mX4_init) [.ref q, .int pa, .int ce, .int sg]) [] (h) n 0 0 := by
  show AW _ _ 0 [some (.ref q), some (.int pa), some (.int ce), some (.int sg)] [] _ _ 0 0
  refine r_aload_n 1 rfl 0 dX4_init_0 rfl rfl ?_
  refine r_objInit 4 rfl dX4_init_1 (lk_X4_1 rfl) (by decide) (Nat.le_of_ble_eq_true rfl) ?_
  refine r_aload_n 5 rfl 0 dX4_init_4 rfl rfl ?_
  refine r_iload_n 6 rfl 1 dX4_init_5 rfl rfl ?_
  refine r_putf 9 rfl (k := 0) [.int pa, .int 0, .int 0] dX4_init_6 (pf_X4_7_2 rfl rfl) hq (Nat.le_of_ble_eq_true rfl) rfl (fun _ _ => ⟨rfl, rfl⟩) ?_
  refine r_aload_n 10 rfl 0 dX4_init_9 rfl rfl ?_
  refine r_iload_n 11 rfl 2 dX4_init_10 rfl rfl ?_
  refine r_putf 14 rfl (k := 1) [.int pa, .int ce, .int 0] dX4_init_11 (pf_X4_13_2 rfl rfl) up_s (Nat.le_of_ble_eq_true rfl) rfl (fun _ _ => ⟨rfl, rfl⟩) ?_
  refine r_aload_n 15 rfl 0 dX4_init_14 rfl rfl ?_
  refine r_iload_n 16 rfl 3 dX4_init_15 rfl rfl ?_
  refine r_putf 19 rfl (k := 2) [.int pa, .int ce, .int sg] dX4_init_16 (pf_X4_16_2 rfl rfl) up_s (Nat.le_of_ble_eq_true rfl) rfl (fun _ _ => ⟨rfl, rfl⟩) ?_
  refine r_return rfl dX4_init_19 (Nat.le_of_ble_eq_true rfl) (Nat.le_of_ble_eq_true rfl) ?_
  rw [up_up, up_up]
  exact k

set_option maxHeartbeats 4000000 in
set_option maxRecDepth 20000 in
theorem c_i_X2_init_2 {Q : am_P} {h : Nat → am_E} {n : Nat} {q : Nat} {pa ce sg : Int32} (hq : h q = .inr (.inr (2, [.int 0, .int 0, .int 0]))) (k : Q none (va_up h q (.inr (.inr (2, [.int pa, .int ce, .int sg])))) n) : AW mX2_init Q 0 (am_ent (am_l mX2_init) [.ref q, .int pa, .int ce, .int sg]) [] (h) n 0 0 := by
  show AW _ _ 0 [some (.ref q), some (.int pa), some (.int ce), some (.int sg)] [] _ _ 0 0
  refine r_aload_n 1 rfl 0 dX2_init_0 rfl rfl ?_
  refine r_iload_n 2 rfl 1 dX2_init_1 rfl rfl ?_
  refine r_iload_n 3 rfl 2 dX2_init_2 rfl rfl ?_
  refine r_iload_n 4 rfl 3 dX2_init_3 rfl rfl ?_
  refine q_I 7 0 0 rfl [.int pa, .int ce, .int sg] rfl dX2_init_4 cl_X2_init__X4_init (lk_X2_1 rfl) im_X4_init rfl rfl (Nat.le_of_ble_eq_true rfl) (fun _ _ => Nat.le_of_ble_eq_true rfl) rfl rfl (Nat.le_of_ble_eq_true rfl) (Nat.le_of_ble_eq_true rfl) ?_
  refine c_i4_2 hq (k_v ?_)
  refine r_return rfl dX2_init_7 (Nat.le_of_ble_eq_true rfl) (Nat.le_of_ble_eq_true rfl) ?_
  exact k

set_option maxHeartbeats 4000000 in
set_option maxRecDepth 20000 in
theorem c_i4_6 {Q : am_P} {h : Nat → am_E} {n : Nat} {q : Nat} {pa ce sg : Int32} (hq : h q = .inr (.inr (6, [.int 0, .int 0, .int 0]))) (k : Q none (va_up h q (.inr (.inr (6, [.int pa, .int ce, .int sg])))) n) : AW mX4_init Q 0 (am_ent (am_l mX4_init) [.ref q, .int pa, .int ce, .int sg]) [] (h) n 0 0 := by
  show AW _ _ 0 [some (.ref q), some (.int pa), some (.int ce), some (.int sg)] [] _ _ 0 0
  refine r_aload_n 1 rfl 0 dX4_init_0 rfl rfl ?_
  refine r_objInit 4 rfl dX4_init_1 (lk_X4_1 rfl) (by decide) (Nat.le_of_ble_eq_true rfl) ?_
  refine r_aload_n 5 rfl 0 dX4_init_4 rfl rfl ?_
  refine r_iload_n 6 rfl 1 dX4_init_5 rfl rfl ?_
  refine r_putf 9 rfl (k := 0) [.int pa, .int 0, .int 0] dX4_init_6 (pf_X4_7_6 rfl rfl) hq (Nat.le_of_ble_eq_true rfl) rfl (fun _ _ => ⟨rfl, rfl⟩) ?_
  refine r_aload_n 10 rfl 0 dX4_init_9 rfl rfl ?_
  refine r_iload_n 11 rfl 2 dX4_init_10 rfl rfl ?_
  refine r_putf 14 rfl (k := 1) [.int pa, .int ce, .int 0] dX4_init_11 (pf_X4_13_6 rfl rfl) up_s (Nat.le_of_ble_eq_true rfl) rfl (fun _ _ => ⟨rfl, rfl⟩) ?_
  refine r_aload_n 15 rfl 0 dX4_init_14 rfl rfl ?_
  refine r_iload_n 16 rfl 3 dX4_init_15 rfl rfl ?_
  refine r_putf 19 rfl (k := 2) [.int pa, .int ce, .int sg] dX4_init_16 (pf_X4_16_6 rfl rfl) up_s (Nat.le_of_ble_eq_true rfl) rfl (fun _ _ => ⟨rfl, rfl⟩) ?_
  refine r_return rfl dX4_init_19 (Nat.le_of_ble_eq_true rfl) (Nat.le_of_ble_eq_true rfl) ?_
  rw [up_up, up_up]
  exact k

set_option maxHeartbeats 4000000 in
set_option maxRecDepth 20000 in
theorem c_i_X6_init_6 {Q : am_P} {h : Nat → am_E} {n : Nat} {q : Nat} {pa ce sg : Int32} (hq : h q = .inr (.inr (6, [.int 0, .int 0, .int 0]))) (k : Q none (va_up h q (.inr (.inr (6, [.int pa, .int ce, .int sg])))) n) : AW mX6_init Q 0 (am_ent (am_l mX6_init) [.ref q, .int pa, .int ce, .int sg]) [] (h) n 0 0 := by
  show AW _ _ 0 [some (.ref q), some (.int pa), some (.int ce), some (.int sg)] [] _ _ 0 0
  refine r_aload_n 1 rfl 0 dX6_init_0 rfl rfl ?_
  refine r_iload_n 2 rfl 1 dX6_init_1 rfl rfl ?_
  refine r_iload_n 3 rfl 2 dX6_init_2 rfl rfl ?_
  refine r_iload_n 4 rfl 3 dX6_init_3 rfl rfl ?_
  refine q_I 7 0 0 rfl [.int pa, .int ce, .int sg] rfl dX6_init_4 cl_X6_init__X4_init (lk_X6_1 rfl) im_X4_init rfl rfl (Nat.le_of_ble_eq_true rfl) (fun _ _ => Nat.le_of_ble_eq_true rfl) rfl rfl (Nat.le_of_ble_eq_true rfl) (Nat.le_of_ble_eq_true rfl) ?_
  refine c_i4_6 hq (k_v ?_)
  refine r_return rfl dX6_init_7 (Nat.le_of_ble_eq_true rfl) (Nat.le_of_ble_eq_true rfl) ?_
  exact k

set_option maxHeartbeats 4000000 in
set_option maxRecDepth 20000 in
theorem c_i4_8 {Q : am_P} {h : Nat → am_E} {n : Nat} {q : Nat} {pa ce sg : Int32} (hq : h q = .inr (.inr (8, [.int 0, .int 0, .int 0]))) (k : Q none (va_up h q (.inr (.inr (8, [.int pa, .int ce, .int sg])))) n) : AW mX4_init Q 0 (am_ent (am_l mX4_init) [.ref q, .int pa, .int ce, .int sg]) [] (h) n 0 0 := by
  show AW _ _ 0 [some (.ref q), some (.int pa), some (.int ce), some (.int sg)] [] _ _ 0 0
  refine r_aload_n 1 rfl 0 dX4_init_0 rfl rfl ?_
  refine r_objInit 4 rfl dX4_init_1 (lk_X4_1 rfl) (by decide) (Nat.le_of_ble_eq_true rfl) ?_
  refine r_aload_n 5 rfl 0 dX4_init_4 rfl rfl ?_
  refine r_iload_n 6 rfl 1 dX4_init_5 rfl rfl ?_
  refine r_putf 9 rfl (k := 0) [.int pa, .int 0, .int 0] dX4_init_6 (pf_X4_7_8 rfl rfl) hq (Nat.le_of_ble_eq_true rfl) rfl (fun _ _ => ⟨rfl, rfl⟩) ?_
  refine r_aload_n 10 rfl 0 dX4_init_9 rfl rfl ?_
  refine r_iload_n 11 rfl 2 dX4_init_10 rfl rfl ?_
  refine r_putf 14 rfl (k := 1) [.int pa, .int ce, .int 0] dX4_init_11 (pf_X4_13_8 rfl rfl) up_s (Nat.le_of_ble_eq_true rfl) rfl (fun _ _ => ⟨rfl, rfl⟩) ?_
  refine r_aload_n 15 rfl 0 dX4_init_14 rfl rfl ?_
  refine r_iload_n 16 rfl 3 dX4_init_15 rfl rfl ?_
  refine r_putf 19 rfl (k := 2) [.int pa, .int ce, .int sg] dX4_init_16 (pf_X4_16_8 rfl rfl) up_s (Nat.le_of_ble_eq_true rfl) rfl (fun _ _ => ⟨rfl, rfl⟩) ?_
  refine r_return rfl dX4_init_19 (Nat.le_of_ble_eq_true rfl) (Nat.le_of_ble_eq_true rfl) ?_
  rw [up_up, up_up]
  exact k

set_option maxHeartbeats 4000000 in
set_option maxRecDepth 20000 in
theorem c_i_X6_init_8 {Q : am_P} {h : Nat → am_E} {n : Nat} {q : Nat} {pa ce sg : Int32} (hq : h q = .inr (.inr (8, [.int 0, .int 0, .int 0]))) (k : Q none (va_up h q (.inr (.inr (8, [.int pa, .int ce, .int sg])))) n) : AW mX6_init Q 0 (am_ent (am_l mX6_init) [.ref q, .int pa, .int ce, .int sg]) [] (h) n 0 0 := by
  show AW _ _ 0 [some (.ref q), some (.int pa), some (.int ce), some (.int sg)] [] _ _ 0 0
  refine r_aload_n 1 rfl 0 dX6_init_0 rfl rfl ?_
  refine r_iload_n 2 rfl 1 dX6_init_1 rfl rfl ?_
  refine r_iload_n 3 rfl 2 dX6_init_2 rfl rfl ?_
  refine r_iload_n 4 rfl 3 dX6_init_3 rfl rfl ?_
  refine q_I 7 0 0 rfl [.int pa, .int ce, .int sg] rfl dX6_init_4 cl_X6_init__X4_init (lk_X6_1 rfl) im_X4_init rfl rfl (Nat.le_of_ble_eq_true rfl) (fun _ _ => Nat.le_of_ble_eq_true rfl) rfl rfl (Nat.le_of_ble_eq_true rfl) (Nat.le_of_ble_eq_true rfl) ?_
  refine c_i4_8 hq (k_v ?_)
  refine r_return rfl dX6_init_7 (Nat.le_of_ble_eq_true rfl) (Nat.le_of_ble_eq_true rfl) ?_
  exact k

set_option maxHeartbeats 4000000 in
set_option maxRecDepth 20000 in
theorem c_i_X8_init_8 {Q : am_P} {h : Nat → am_E} {n : Nat} {q : Nat} {pa ce sg : Int32} (hq : h q = .inr (.inr (8, [.int 0, .int 0, .int 0]))) (k : Q none (va_up h q (.inr (.inr (8, [.int pa, .int ce, .int sg])))) n) : AW mX8_init Q 0 (am_ent (am_l mX8_init) [.ref q, .int pa, .int ce, .int sg]) [] (h) n 0 0 := by
  show AW _ _ 0 [some (.ref q), some (.int pa), some (.int ce), some (.int sg)] [] _ _ 0 0
  refine r_aload_n 1 rfl 0 dX8_init_0 rfl rfl ?_
  refine r_iload_n 2 rfl 1 dX8_init_1 rfl rfl ?_
  refine r_iload_n 3 rfl 2 dX8_init_2 rfl rfl ?_
  refine r_iload_n 4 rfl 3 dX8_init_3 rfl rfl ?_
  refine q_I 7 0 0 rfl [.int pa, .int ce, .int sg] rfl dX8_init_4 cl_X8_init__X6_init (lk_X8_1 rfl) im_X6_init rfl rfl (Nat.le_of_ble_eq_true rfl) (fun _ _ => Nat.le_of_ble_eq_true rfl) rfl rfl (Nat.le_of_ble_eq_true rfl) (Nat.le_of_ble_eq_true rfl) ?_
  refine c_i_X6_init_8 hq (k_v ?_)
  refine r_return rfl dX8_init_7 (Nat.le_of_ble_eq_true rfl) (Nat.le_of_ble_eq_true rfl) ?_
  exact k

set_option maxHeartbeats 4000000 in
set_option maxRecDepth 20000 in
theorem c_make_0 {Q : am_P} {h : Nat → am_E} {n : Nat} {pa ce sg : Int32} (k : Q (some (.ref (n + 1))) (va_up h (n + 1) (.inr (.inr (4, [.int pa, .int ce, .int sg])))) (n + 1)) : AW mX9_make Q 0 (am_ent (am_l mX9_make) [.int 0, .int pa, .int ce, .int sg]) [] (h) n 0 0 := by
  show AW _ _ 0 [some (.int 0), some (.int pa), some (.int ce), some (.int sg)] [] _ _ 0 0
  refine r_iload_n 1 rfl 0 dX9_make_0 rfl rfl ?_
  refine r_tabOut 76 dX9_make_1 (by decide) rfl ?_
  refine r_new 79 rfl dX9_make_76 (nf_X9_23 rfl) (Nat.le_of_ble_eq_true rfl) (Nat.le_of_ble_eq_true rfl) ?_
  refine r_dup 80 rfl dX9_make_79 rfl ?_
  refine r_iload_n 81 rfl 1 dX9_make_80 rfl rfl ?_
  refine r_iload_n 82 rfl 2 dX9_make_81 rfl rfl ?_
  refine r_iload_n 83 rfl 3 dX9_make_82 rfl rfl ?_
  refine q_I 86 1 3 rfl [.int pa, .int ce, .int sg] rfl dX9_make_83 cl_X9_make__X4_init (lk_X9_294 rfl) im_X4_init rfl rfl (Nat.le_of_ble_eq_true rfl) (fun _ _ => Nat.le_of_ble_eq_true rfl) rfl rfl (Nat.le_of_ble_eq_true rfl) (Nat.le_of_ble_eq_true rfl) ?_
  refine c_i4_4 up_s (k_v ?_)
  rw [up_up]
  refine r_areturn rfl dX9_make_86 (Nat.le_of_ble_eq_true rfl) (Nat.le_of_ble_eq_true rfl) ?_
  exact k

set_option maxHeartbeats 4000000 in
set_option maxRecDepth 20000 in
theorem c_make_1 {Q : am_P} {h : Nat → am_E} {n : Nat} {pa ce sg : Int32} (k : Q (some (.ref (n + 1))) (va_up h (n + 1) (.inr (.inr (1, [.int pa, .int ce, .int sg])))) (n + 1)) : AW mX9_make Q 0 (am_ent (am_l mX9_make) [.int 1, .int pa, .int ce, .int sg]) [] (h) n 0 0 := by
  show AW _ _ 0 [some (.int 1), some (.int pa), some (.int ce), some (.int sg)] [] _ _ 0 0
  refine r_iload_n 1 rfl 0 dX9_make_0 rfl rfl ?_
  refine r_tabIn 32 dX9_make_1 (by decide) (by decide) rfl rfl ?_
  refine r_new 35 rfl dX9_make_32 (nf_X9_280 rfl) (Nat.le_of_ble_eq_true rfl) (Nat.le_of_ble_eq_true rfl) ?_
  refine r_dup 36 rfl dX9_make_35 rfl ?_
  refine r_iload_n 37 rfl 1 dX9_make_36 rfl rfl ?_
  refine r_iload_n 38 rfl 2 dX9_make_37 rfl rfl ?_
  refine r_iload_n 39 rfl 3 dX9_make_38 rfl rfl ?_
  refine q_I 42 1 3 rfl [.int pa, .int ce, .int sg] rfl dX9_make_39 cl_X9_make__X1_init (lk_X9_282 rfl) im_X1_init rfl rfl (Nat.le_of_ble_eq_true rfl) (fun _ _ => Nat.le_of_ble_eq_true rfl) rfl rfl (Nat.le_of_ble_eq_true rfl) (Nat.le_of_ble_eq_true rfl) ?_
  refine c_i_X1_init_1 up_s (k_v ?_)
  rw [up_up]
  refine r_areturn rfl dX9_make_42 (Nat.le_of_ble_eq_true rfl) (Nat.le_of_ble_eq_true rfl) ?_
  exact k

set_option maxHeartbeats 4000000 in
set_option maxRecDepth 20000 in
theorem c_make_2 {Q : am_P} {h : Nat → am_E} {n : Nat} {pa ce sg : Int32} (k : Q (some (.ref (n + 1))) (va_up h (n + 1) (.inr (.inr (2, [.int pa, .int ce, .int sg])))) (n + 1)) : AW mX9_make Q 0 (am_ent (am_l mX9_make) [.int 2, .int pa, .int ce, .int sg]) [] (h) n 0 0 := by
  show AW _ _ 0 [some (.int 2), some (.int pa), some (.int ce), some (.int sg)] [] _ _ 0 0
  refine r_iload_n 1 rfl 0 dX9_make_0 rfl rfl ?_
  refine r_tabIn 43 dX9_make_1 (by decide) (by decide) rfl rfl ?_
  refine r_new 46 rfl dX9_make_43 (nf_X9_285 rfl) (Nat.le_of_ble_eq_true rfl) (Nat.le_of_ble_eq_true rfl) ?_
  refine r_dup 47 rfl dX9_make_46 rfl ?_
  refine r_iload_n 48 rfl 1 dX9_make_47 rfl rfl ?_
  refine r_iload_n 49 rfl 2 dX9_make_48 rfl rfl ?_
  refine r_iload_n 50 rfl 3 dX9_make_49 rfl rfl ?_
  refine q_I 53 1 3 rfl [.int pa, .int ce, .int sg] rfl dX9_make_50 cl_X9_make__X2_init (lk_X9_287 rfl) im_X2_init rfl rfl (Nat.le_of_ble_eq_true rfl) (fun _ _ => Nat.le_of_ble_eq_true rfl) rfl rfl (Nat.le_of_ble_eq_true rfl) (Nat.le_of_ble_eq_true rfl) ?_
  refine c_i_X2_init_2 up_s (k_v ?_)
  rw [up_up]
  refine r_areturn rfl dX9_make_53 (Nat.le_of_ble_eq_true rfl) (Nat.le_of_ble_eq_true rfl) ?_
  exact k

set_option maxHeartbeats 4000000 in
set_option maxRecDepth 20000 in
theorem c_make_3 {Q : am_P} {h : Nat → am_E} {n : Nat} {pa ce sg : Int32} (k : Q (some (.ref (n + 1))) (va_up h (n + 1) (.inr (.inr (6, [.int pa, .int ce, .int sg])))) (n + 1)) : AW mX9_make Q 0 (am_ent (am_l mX9_make) [.int 3, .int pa, .int ce, .int sg]) [] (h) n 0 0 := by
  show AW _ _ 0 [some (.int 3), some (.int pa), some (.int ce), some (.int sg)] [] _ _ 0 0
  refine r_iload_n 1 rfl 0 dX9_make_0 rfl rfl ?_
  refine r_tabIn 54 dX9_make_1 (by decide) (by decide) rfl rfl ?_
  refine r_new 57 rfl dX9_make_54 (nf_X9_288 rfl) (Nat.le_of_ble_eq_true rfl) (Nat.le_of_ble_eq_true rfl) ?_
  refine r_dup 58 rfl dX9_make_57 rfl ?_
  refine r_iload_n 59 rfl 1 dX9_make_58 rfl rfl ?_
  refine r_iload_n 60 rfl 2 dX9_make_59 rfl rfl ?_
  refine r_iload_n 61 rfl 3 dX9_make_60 rfl rfl ?_
  refine q_I 64 1 3 rfl [.int pa, .int ce, .int sg] rfl dX9_make_61 cl_X9_make__X6_init (lk_X9_290 rfl) im_X6_init rfl rfl (Nat.le_of_ble_eq_true rfl) (fun _ _ => Nat.le_of_ble_eq_true rfl) rfl rfl (Nat.le_of_ble_eq_true rfl) (Nat.le_of_ble_eq_true rfl) ?_
  refine c_i_X6_init_6 up_s (k_v ?_)
  rw [up_up]
  refine r_areturn rfl dX9_make_64 (Nat.le_of_ble_eq_true rfl) (Nat.le_of_ble_eq_true rfl) ?_
  exact k

set_option maxHeartbeats 4000000 in
set_option maxRecDepth 20000 in
theorem c_make_4 {Q : am_P} {h : Nat → am_E} {n : Nat} {pa ce sg : Int32} (k : Q (some (.ref (n + 1))) (va_up h (n + 1) (.inr (.inr (8, [.int pa, .int ce, .int sg])))) (n + 1)) : AW mX9_make Q 0 (am_ent (am_l mX9_make) [.int 4, .int pa, .int ce, .int sg]) [] (h) n 0 0 := by
  show AW _ _ 0 [some (.int 4), some (.int pa), some (.int ce), some (.int sg)] [] _ _ 0 0
  refine r_iload_n 1 rfl 0 dX9_make_0 rfl rfl ?_
  refine r_tabIn 65 dX9_make_1 (by decide) (by decide) rfl rfl ?_
  refine r_new 68 rfl dX9_make_65 (nf_X9_291 rfl) (Nat.le_of_ble_eq_true rfl) (Nat.le_of_ble_eq_true rfl) ?_
  refine r_dup 69 rfl dX9_make_68 rfl ?_
  refine r_iload_n 70 rfl 1 dX9_make_69 rfl rfl ?_
  refine r_iload_n 71 rfl 2 dX9_make_70 rfl rfl ?_
  refine r_iload_n 72 rfl 3 dX9_make_71 rfl rfl ?_
  refine q_I 75 1 3 rfl [.int pa, .int ce, .int sg] rfl dX9_make_72 cl_X9_make__X8_init (lk_X9_293 rfl) im_X8_init rfl rfl (Nat.le_of_ble_eq_true rfl) (fun _ _ => Nat.le_of_ble_eq_true rfl) rfl rfl (Nat.le_of_ble_eq_true rfl) (Nat.le_of_ble_eq_true rfl) ?_
  refine c_i_X8_init_8 up_s (k_v ?_)
  rw [up_up]
  refine r_areturn rfl dX9_make_75 (Nat.le_of_ble_eq_true rfl) (Nat.le_of_ble_eq_true rfl) ?_
  exact k

theorem c_make {Q : am_P} {z : am_Z} {m : Nat → Nat → Int32} {n : Nat} {kd pa ce sg : Nat} (hk : kd < 5) (hn : 53 ≤ n) (k : Q (some (.ref (n + 1))) (wd (zn z (n + 1) (.inr (.inr (kc kd, [.int (nI pa), .int (nI ce), .int (nI sg)])))) m) (n + 1)) : AW mX9_make Q 0 (am_ent (am_l mX9_make) [.int (nI kd), .int (nI pa), .int (nI ce), .int (nI sg)]) [] (wd z m) n 0 0 := by
  rw [← wd_zn (by omega)] at k
  rcases (show kd = 0 ∨ kd = 1 ∨ kd = 2 ∨ kd = 3 ∨ kd = 4 by omega) with rfl | rfl | rfl | rfl | rfl
  · exact c_make_0 k
  · exact c_make_1 k
  · exact c_make_2 k
  · exact c_make_3 k
  · exact c_make_4 k

set_option maxHeartbeats 4000000 in
set_option maxRecDepth 20000 in
theorem c_addSource {Q : am_P} {z : am_Z} {m : Nat → Nat → Int32} {n : Nat} {ns : Nat} (hns : m 7 0 = nI ns) (hn6 : ns < 6) (k : Q (some (.int (nI ns))) (wd z (va_up (va_up (va_up m 8 (upd (m 8) ns 1)) 9 (upd (m 9) ns 0)) 7 (upd (m 7) 0 (nI (ns + 1))))) n) : AW mX5_addSource Q 0 (am_ent (am_l mX5_addSource) [.ref 7]) [] (wd z m) n 0 0 := by
  show AW _ _ 0 [some (.ref 7)] [] _ _ 0 0
  refine r_aload_n 1 rfl 0 dX5_addSource_0 rfl rfl ?_
  refine r_getf (v := .int ((m 7) 0)) (k := 0) 4 rfl dX5_addSource_1 (gf_X5_31_5 rfl) rfl rfl ?_
  rw [show (m 7) 0 = nI ns from hns]
  refine r_bipush 6 rfl 6 dX5_addSource_4 (by decide) ?_
  refine r_icmp_lt 9 11 rfl dX5_addSource_6 rfl (fun _ => ?_) (fun q__ => absurd ((nI_ltI (a := ns) (b := 6) (by omega) (by omega)).mpr (by omega)) q__)
  refine r_aload_n 12 rfl 0 dX5_addSource_11 rfl rfl ?_
  refine r_getf (v := .ref 8) (k := 1) 15 rfl dX5_addSource_12 (gf_X5_9_5 rfl) rfl rfl ?_
  refine r_aload_n 16 rfl 0 dX5_addSource_15 rfl rfl ?_
  refine r_getf (v := .int ((m 7) 0)) (k := 0) 19 rfl dX5_addSource_16 (gf_X5_31_5 rfl) rfl rfl ?_
  rw [show (m 7) 0 = nI ns from hns]
  refine r_iconst 20 rfl 1 dX5_addSource_19 rfl ?_
  refine w_zast 21 rfl ns (va_up m 8 (upd (m 8) ns 1)) dX5_addSource_20 (by decide) (by decide) (fun _ => rfl) rfl (by omega) (by decide) rfl rfl ?_
  refine r_aload_n 22 rfl 0 dX5_addSource_21 rfl rfl ?_
  refine r_getf (v := .ref 9) (k := 2) 25 rfl dX5_addSource_22 (gf_X5_15_5 rfl) rfl rfl ?_
  refine r_aload_n 26 rfl 0 dX5_addSource_25 rfl rfl ?_
  refine r_getf (v := .int ((m 7) 0)) (k := 0) 29 rfl dX5_addSource_26 (gf_X5_31_5 rfl) rfl rfl ?_
  rw [show (m 7) 0 = nI ns from hns]
  refine r_iconst 30 rfl 0 dX5_addSource_29 rfl ?_
  refine w_iast 31 rfl ns (va_up (va_up m 8 (upd (m 8) ns 1)) 9 (upd (m 9) ns 0)) dX5_addSource_30 (by decide) (by decide) (fun _ => rfl) rfl (by omega) (by decide) rfl ?_
  refine r_aload_n 32 rfl 0 dX5_addSource_31 rfl rfl ?_
  refine r_dup 33 rfl dX5_addSource_32 rfl ?_
  refine r_getf (v := .int ((m 7) 0)) (k := 0) 36 rfl dX5_addSource_33 (gf_X5_31_5 rfl) rfl rfl ?_
  rw [show (m 7) 0 = nI ns from hns]
  refine r_dup_x1 37 rfl dX5_addSource_36 rfl rfl ?_
  refine r_iconst 38 rfl 1 dX5_addSource_37 rfl ?_
  refine r_iadd 39 rfl dX5_addSource_38 ?_
  rw [show (nI ns) + 1 = nI (ns + 1) from nI_add ns 1]
  refine w_putf 42 rfl (k := 0) (va_up (va_up (va_up m 8 (upd (m 8) ns 1)) 9 (upd (m 9) ns 0)) 7 (upd (m 7) 0 (nI (ns + 1)))) dX5_addSource_39 (pf_X5_31_5 rfl) (by decide) (by decide) rfl (Nat.le_of_ble_eq_true rfl) rfl ⟨rfl, rfl⟩ rfl ?_
  refine r_ireturn rfl dX5_addSource_42 (Nat.le_of_ble_eq_true rfl) (Nat.le_of_ble_eq_true rfl) ?_
  exact k
