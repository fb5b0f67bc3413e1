theorem s_new {M : am_M} {Q : am_P} {pc : Nat} {lv : List (Option Value)} {st : List Value} {h : Nat → am_E} {n cu su : Nat} (pc' n' cu' su' : Nat) (hn : n + 1 = n') (hc : cu + 1 = cu') {idx ci N : Nat} (hp : pc + 3 = pc') {fs : List Value} (hd : decode (am_c M) pc = .ok (.new idx, 3)) (hf : am_nf M idx ci N fs) (hs : su + N = su') (hcu : cu' ≤ am_mc M) (hsu : su' ≤ am_ms M) (kk : AW M Q pc' lv (.ref n' :: st) (va_up h n' (.inr (.inr (ci, fs)))) n' cu' su') : AW M Q pc lv st h n cu su := by
  subst hn; subst hc; subst hs
  exact r_new pc' hp hd hf hcu hsu kk
theorem s_newaI {M : am_M} {Q : am_P} {pc : Nat} {lv : List (Option Value)} {st : List Value} {h : Nat → am_E} {n cu su : Nat} (pc' n' cu' su' : Nat) (hn : n + 1 = n') (hc : cu + 1 = cu') (N : Nat) (hs : su + N = su') (hp : pc + 2 = pc') {i : Int32} (hd : decode (am_c M) pc = .ok (.newarray .int, 2)) (hi : i = nI N) (hN : N ≤ 1000) (hcu : cu' ≤ am_mc M) (hsu : su' ≤ am_ms M) (kk : AW M Q pc' lv (.ref n' :: st) (va_up h n' (.inl (0, N, fun _ => 0))) n' cu' su') : AW M Q pc lv (.int i :: st) h n cu su := by
  subst hn; subst hc; subst hs
  exact r_newaI pc' hp N hd hi hN hcu hsu kk
theorem s_anewa {M : am_M} {Q : am_P} {pc : Nat} {lv : List (Option Value)} {st : List Value} {h : Nat → am_E} {n cu su : Nat} (pc' n' cu' su' : Nat) (hn : n + 1 = n') (hc : cu + 1 = cu') (N : Nat) (hs : su + N = su') (hp : pc + 3 = pc') {idx : Nat} {i : Int32} (hd : decode (am_c M) pc = .ok (.anewarray idx, 3)) (hcl : Cond.classLink (am_y M).cls idx am_S ∈ am_T) (hi : i = nI N) (hN : N ≤ 1000) (hcu : cu' ≤ am_mc M) (hsu : su' ≤ am_ms M) (kk : AW M Q pc' lv (.ref n' :: st) (va_up h n' (.inr (.inl (N, fun _ => none)))) n' cu' su') : AW M Q pc lv (.int i :: st) h n cu su := by
  subst hn; subst hc; subst hs
  exact r_anewa pc' hp N hd hcl hi hN hcu hsu kk

set_option maxHeartbeats 4000000 in
set_option maxRecDepth 20000 in
theorem c_i3 {Q : am_P} {h : Nat → am_E} {n : Nat} {q : Nat} (hq : h q = .inr (.inr (3, [.null, .int 0]))) (hqn : q ≤ n) (k : Q none (va_up (va_up h (n + 1) (.inl (0, 14, fun _ => 0))) q (.inr (.inr (3, [.ref (n + 1), .int 0])))) (n + 1)) : AW mX3_init Q 0 (am_ent (am_l mX3_init) [.ref q]) [] (h) n 0 0 := by
  show AW _ _ 0 [some (.ref q)] [] _ _ 0 0
  refine r_aload_n 1 rfl 0 dX3_init_0 rfl rfl ?_
  refine r_objInit 4 rfl dX3_init_1 (lk_X3_3 rfl) (by decide) (Nat.le_of_ble_eq_true rfl) ?_
  refine r_aload_n 5 rfl 0 dX3_init_4 rfl rfl ?_
  refine r_bipush 7 rfl 14 dX3_init_5 (by decide) ?_
  refine r_newaI 9 rfl 14 dX3_init_7 rfl (by decide) (Nat.le_of_ble_eq_true rfl) (Nat.le_of_ble_eq_true rfl) ?_
  refine r_putf 12 rfl (k := 0) [.ref (n + 1), .int 0] dX3_init_9 (pf_X3_11_3 rfl rfl) (up_n (by omega) hq) (Nat.le_of_ble_eq_true rfl) rfl (fun _ _ => ⟨rfl, rfl⟩) ?_
  refine r_return rfl dX3_init_12 (Nat.le_of_ble_eq_true rfl) (Nat.le_of_ble_eq_true rfl) ?_
  exact k

theorem c_i3L {Q : am_P} {h : Nat → am_E} {n : Nat} (q a1 : Nat) (hq : h q = .inr (.inr (3, [.null, .int 0]))) (hqn : q ≤ n) (e1 : n + 1 = a1) (k : Q none (va_up (va_up h a1 (.inl (0, 14, fun _ => 0))) q (.inr (.inr (3, [.ref a1, .int 0])))) a1) : AW mX3_init Q 0 (am_ent (am_l mX3_init) [.ref q]) [] h n 0 0 := by
  subst e1
  exact c_i3 hq hqn k

set_option maxHeartbeats 4000000 in
set_option maxRecDepth 20000 in
theorem c_i7 {Q : am_P} {h : Nat → am_E} {n : Nat} {q : Nat} (hq : h q = .inr (.inr (7, [.null, .int 0, .int 0]))) (hqn : q ≤ n) (k : Q none (va_up (va_up h (n + 1) (.inl (0, 8, fun _ => 0))) q (.inr (.inr (7, [.ref (n + 1), .int 0, .int 0])))) (n + 1)) : AW mX7_init Q 0 (am_ent (am_l mX7_init) [.ref q]) [] (h) n 0 0 := by
  show AW _ _ 0 [some (.ref q)] [] _ _ 0 0
  refine r_aload_n 1 rfl 0 dX7_init_0 rfl rfl ?_
  refine r_objInit 4 rfl dX7_init_1 (lk_X7_3 rfl) (by decide) (Nat.le_of_ble_eq_true rfl) ?_
  refine r_aload_n 5 rfl 0 dX7_init_4 rfl rfl ?_
  refine r_bipush 7 rfl 8 dX7_init_5 (by decide) ?_
  refine r_newaI 9 rfl 8 dX7_init_7 rfl (by decide) (Nat.le_of_ble_eq_true rfl) (Nat.le_of_ble_eq_true rfl) ?_
  refine r_putf 12 rfl (k := 0) [.ref (n + 1), .int 0, .int 0] dX7_init_9 (pf_X7_9_7 rfl rfl) (up_n (by omega) hq) (Nat.le_of_ble_eq_true rfl) rfl (fun _ _ => ⟨rfl, rfl⟩) ?_
  refine r_return rfl dX7_init_12 (Nat.le_of_ble_eq_true rfl) (Nat.le_of_ble_eq_true rfl) ?_
  exact k

theorem c_i7L {Q : am_P} {h : Nat → am_E} {n : Nat} (q a1 : Nat) (hq : h q = .inr (.inr (7, [.null, .int 0, .int 0]))) (hqn : q ≤ n) (e1 : n + 1 = a1) (k : Q none (va_up (va_up h a1 (.inl (0, 8, fun _ => 0))) q (.inr (.inr (7, [.ref a1, .int 0, .int 0])))) a1) : AW mX7_init Q 0 (am_ent (am_l mX7_init) [.ref q]) [] h n 0 0 := by
  subst e1
  exact c_i7 hq hqn k

set_option maxHeartbeats 4000000 in
set_option maxRecDepth 20000 in
theorem c_i0 {Q : am_P} {h : Nat → am_E} {n : Nat} {q : Nat} (hq : h q = .inr (.inr (0, [.null, .null, .null, .null]))) (hqn : q ≤ n) (k : Q none (va_up (va_up (va_up (va_up (va_up (va_up (va_up (va_up h (n + 1) (.inl (0, 8, fun _ => 0))) q (.inr (.inr (0, [.ref (n + 1), .null, .null, .null])))) ((n + 1) + 1) (.inl (0, 8, fun _ => 0))) q (.inr (.inr (0, [.ref (n + 1), .ref ((n + 1) + 1), .null, .null])))) (((n + 1) + 1) + 1) (.inl (0, 8, fun _ => 0))) q (.inr (.inr (0, [.ref (n + 1), .ref ((n + 1) + 1), .ref (((n + 1) + 1) + 1), .null])))) ((((n + 1) + 1) + 1) + 1) (.inl (0, 8, fun _ => 0))) q (.inr (.inr (0, [.ref (n + 1), .ref ((n + 1) + 1), .ref (((n + 1) + 1) + 1), .ref ((((n + 1) + 1) + 1) + 1)])))) ((((n + 1) + 1) + 1) + 1)) : AW mX0_init Q 0 (am_ent (am_l mX0_init) [.ref q]) [] (h) n 0 0 := by
  show AW _ _ 0 [some (.ref q)] [] _ _ 0 0
  refine r_aload_n 1 rfl 0 dX0_init_0 rfl rfl ?_
  refine r_objInit 4 rfl dX0_init_1 (lk_X0_3 rfl) (by decide) (Nat.le_of_ble_eq_true rfl) ?_
  refine r_aload_n 5 rfl 0 dX0_init_4 rfl rfl ?_
  refine r_bipush 7 rfl 8 dX0_init_5 (by decide) ?_
  refine r_newaI 9 rfl 8 dX0_init_7 rfl (by decide) (Nat.le_of_ble_eq_true rfl) (Nat.le_of_ble_eq_true rfl) ?_
  refine r_putf 12 rfl (k := 0) [.ref (n + 1), .null, .null, .null] dX0_init_9 (pf_X0_9_0 rfl rfl) (up_n (by omega) hq) (Nat.le_of_ble_eq_true rfl) rfl (fun _ _ => ⟨rfl, rfl⟩) ?_
  refine r_aload_n 13 rfl 0 dX0_init_12 rfl rfl ?_
  refine r_bipush 15 rfl 8 dX0_init_13 (by decide) ?_
  refine r_newaI 17 rfl 8 dX0_init_15 rfl (by decide) (Nat.le_of_ble_eq_true rfl) (Nat.le_of_ble_eq_true rfl) ?_
  refine r_putf 20 rfl (k := 1) [.ref (n + 1), .ref ((n + 1) + 1), .null, .null] dX0_init_17 (pf_X0_15_0 rfl rfl) (up_n (by omega) up_s) (Nat.le_of_ble_eq_true rfl) rfl (fun _ _ => ⟨rfl, rfl⟩) ?_
  refine r_aload_n 21 rfl 0 dX0_init_20 rfl rfl ?_
  refine r_bipush 23 rfl 8 dX0_init_21 (by decide) ?_
  refine r_newaI 25 rfl 8 dX0_init_23 rfl (by decide) (Nat.le_of_ble_eq_true rfl) (Nat.le_of_ble_eq_true rfl) ?_
  refine r_putf 28 rfl (k := 2) [.ref (n + 1), .ref ((n + 1) + 1), .ref (((n + 1) + 1) + 1), .null] dX0_init_25 (pf_X0_18_0 rfl rfl) (up_n (by omega) up_s) (Nat.le_of_ble_eq_true rfl) rfl (fun _ _ => ⟨rfl, rfl⟩) ?_
  refine r_aload_n 29 rfl 0 dX0_init_28 rfl rfl ?_
  refine r_bipush 31 rfl 8 dX0_init_29 (by decide) ?_
  refine r_newaI 33 rfl 8 dX0_init_31 rfl (by decide) (Nat.le_of_ble_eq_true rfl) (Nat.le_of_ble_eq_true rfl) ?_
  refine r_putf 36 rfl (k := 3) [.ref (n + 1), .ref ((n + 1) + 1), .ref (((n + 1) + 1) + 1), .ref ((((n + 1) + 1) + 1) + 1)] dX0_init_33 (pf_X0_21_0 rfl rfl) (up_n (by omega) up_s) (Nat.le_of_ble_eq_true rfl) rfl (fun _ _ => ⟨rfl, rfl⟩) ?_
  refine r_return rfl dX0_init_36 (Nat.le_of_ble_eq_true rfl) (Nat.le_of_ble_eq_true rfl) ?_
  exact k

theorem c_i0L {Q : am_P} {h : Nat → am_E} {n : Nat} (q a1 a2 a3 a4 : Nat) (hq : h q = .inr (.inr (0, [.null, .null, .null, .null]))) (hqn : q ≤ n) (e1 : n + 1 = a1) (e2 : a1 + 1 = a2) (e3 : a2 + 1 = a3) (e4 : a3 + 1 = a4) (k : Q none (va_up (va_up (va_up (va_up (va_up (va_up (va_up (va_up h a1 (.inl (0, 8, fun _ => 0))) q (.inr (.inr (0, [.ref a1, .null, .null, .null])))) a2 (.inl (0, 8, fun _ => 0))) q (.inr (.inr (0, [.ref a1, .ref a2, .null, .null])))) a3 (.inl (0, 8, fun _ => 0))) q (.inr (.inr (0, [.ref a1, .ref a2, .ref a3, .null])))) a4 (.inl (0, 8, fun _ => 0))) q (.inr (.inr (0, [.ref a1, .ref a2, .ref a3, .ref a4])))) a4) : AW mX0_init Q 0 (am_ent (am_l mX0_init) [.ref q]) [] h n 0 0 := by
  subst e1
  subst e2
  subst e3
  subst e4
  exact c_i0 hq hqn k

theorem c_init5L {Q : am_P} {h : Nat → am_E} {n : Nat} (q a1 a2 a3 a4 a5 a6 : Nat) (hq : h q = .inr (.inr (5, [.int 0, .null, .null, .int 0, .int 0, .int 0, .null, .null, .int 0, .null, .null]))) (hqn : q ≤ n) (e1 : n + 1 = a1) (e2 : a1 + 1 = a2) (e3 : a2 + 1 = a3) (e4 : a3 + 1 = a4) (e5 : a4 + 1 = a5) (e6 : a5 + 1 = a6) (k : Q none (va_up (va_up (va_up (va_up (va_up (va_up (va_up (va_up (va_up (va_up (va_up (va_up h a1 (.inl (1, 6, fun _ => 0))) q (.inr (.inr (5, [.int 0, .ref a1, .null, .int 0, .int 0, .int 0, .null, .null, .int 0, .null, .null])))) a2 (.inl (0, 6, fun _ => 0))) q (.inr (.inr (5, [.int 0, .ref a1, .ref a2, .int 0, .int 0, .int 0, .null, .null, .int 0, .null, .null])))) a3 (.inl (0, 8, fun _ => 0))) q (.inr (.inr (5, [.int 0, .ref a1, .ref a2, .int 0, .int 0, .int 0, .ref a3, .null, .int 0, .null, .null])))) a4 (.inl (0, 3, fun _ => 0))) q (.inr (.inr (5, [.int 0, .ref a1, .ref a2, .int 0, .int 0, .int 0, .ref a3, .ref a4, .int 0, .null, .null])))) a5 (.inl (0, 8, fun _ => 0))) q (.inr (.inr (5, [.int 0, .ref a1, .ref a2, .int 0, .int 0, .int 0, .ref a3, .ref a4, .int 0, .ref a5, .null])))) a6 (.inl (0, 8, fun _ => 0))) q (.inr (.inr (5, [.int 0, .ref a1, .ref a2, .int 0, .int 0, .int 0, .ref a3, .ref a4, .int 0, .ref a5, .ref a6])))) a6) : AW mX5_init Q 0 (am_ent (am_l mX5_init) [.ref q]) [] h n 0 0 := by
  subst e1
  subst e2
  subst e3
  subst e4
  subst e5
  subst e6
  exact c_init5 hq hqn k

set_option maxHeartbeats 4000000 in
set_option maxRecDepth 20000 in
theorem c_i9 {Q : am_P} {L : Nat} {xs : Nat → Int32} (k : Q none (va_up (va_up (va_up (va_up (va_up (va_up (va_up (va_up (va_up (va_up (va_up (va_up (va_up (va_up (va_up (va_up (va_up (va_up (va_up (va_up (va_up (va_up (va_up (va_up (va_up (va_up (va_up (va_up (va_up (va_up (va_up (va_up (va_up (va_up (va_up (va_up (va_up (va_up (va_up (va_up (va_up (va_up (va_up (va_up (va_up (va_up (va_up (va_up (va_up (va_up (va_up (va_up (va_up (va_up (va_up (va_up (va_up (va_up (va_up (va_up (va_up (va_up (va_up (va_up (va_up (va_up (va_up (va_up (va_up (va_up (va_up (am_h0 L xs) 1 (.inr (.inr (9, [.null, .null, .null, .null, .null, .null, .null, .null, .null, .null, .null, .int 0, .int 0, .int 0, .int 0])))) 2 (.inr (.inr (3, [.null, .int 0])))) 3 (.inl (0, 14, fun _ => 0))) 2 (.inr (.inr (3, [.ref 3, .int 0])))) 1 (.inr (.inr (9, [.ref 2, .null, .null, .null, .null, .null, .null, .null, .null, .null, .null, .int 0, .int 0, .int 0, .int 0])))) 4 (.inr (.inr (7, [.null, .int 0, .int 0])))) 5 (.inl (0, 8, fun _ => 0))) 4 (.inr (.inr (7, [.ref 5, .int 0, .int 0])))) 1 (.inr (.inr (9, [.ref 2, .ref 4, .null, .null, .null, .null, .null, .null, .null, .null, .null, .int 0, .int 0, .int 0, .int 0])))) 6 (.inr (.inl (6, fun _ => none)))) 1 (.inr (.inr (9, [.ref 2, .ref 4, .ref 6, .null, .null, .null, .null, .null, .null, .null, .null, .int 0, .int 0, .int 0, .int 0])))) 7 (.inr (.inr (5, [.int 0, .null, .null, .int 0, .int 0, .int 0, .null, .null, .int 0, .null, .null])))) 8 (.inl (1, 6, fun _ => 0))) 7 (.inr (.inr (5, [.int 0, .ref 8, .null, .int 0, .int 0, .int 0, .null, .null, .int 0, .null, .null])))) 9 (.inl (0, 6, fun _ => 0))) 7 (.inr (.inr (5, [.int 0, .ref 8, .ref 9, .int 0, .int 0, .int 0, .null, .null, .int 0, .null, .null])))) 10 (.inl (0, 8, fun _ => 0))) 7 (.inr (.inr (5, [.int 0, .ref 8, .ref 9, .int 0, .int 0, .int 0, .ref 10, .null, .int 0, .null, .null])))) 11 (.inl (0, 3, fun _ => 0))) 7 (.inr (.inr (5, [.int 0, .ref 8, .ref 9, .int 0, .int 0, .int 0, .ref 10, .ref 11, .int 0, .null, .null])))) 12 (.inl (0, 8, fun _ => 0))) 7 (.inr (.inr (5, [.int 0, .ref 8, .ref 9, .int 0, .int 0, .int 0, .ref 10, .ref 11, .int 0, .ref 12, .null])))) 13 (.inl (0, 8, fun _ => 0))) 7 (.inr (.inr (5, [.int 0, .ref 8, .ref 9, .int 0, .int 0, .int 0, .ref 10, .ref 11, .int 0, .ref 12, .ref 13])))) 1 (.inr (.inr (9, [.ref 2, .ref 4, .ref 6, .ref 7, .null, .null, .null, .null, .null, .null, .null, .int 0, .int 0, .int 0, .int 0])))) 14 (.inr (.inr (5, [.int 0, .null, .null, .int 0, .int 0, .int 0, .null, .null, .int 0, .null, .null])))) 15 (.inl (1, 6, fun _ => 0))) 14 (.inr (.inr (5, [.int 0, .ref 15, .null, .int 0, .int 0, .int 0, .null, .null, .int 0, .null, .null])))) 16 (.inl (0, 6, fun _ => 0))) 14 (.inr (.inr (5, [.int 0, .ref 15, .ref 16, .int 0, .int 0, .int 0, .null, .null, .int 0, .null, .null])))) 17 (.inl (0, 8, fun _ => 0))) 14 (.inr (.inr (5, [.int 0, .ref 15, .ref 16, .int 0, .int 0, .int 0, .ref 17, .null, .int 0, .null, .null])))) 18 (.inl (0, 3, fun _ => 0))) 14 (.inr (.inr (5, [.int 0, .ref 15, .ref 16, .int 0, .int 0, .int 0, .ref 17, .ref 18, .int 0, .null, .null])))) 19 (.inl (0, 8, fun _ => 0))) 14 (.inr (.inr (5, [.int 0, .ref 15, .ref 16, .int 0, .int 0, .int 0, .ref 17, .ref 18, .int 0, .ref 19, .null])))) 20 (.inl (0, 8, fun _ => 0))) 14 (.inr (.inr (5, [.int 0, .ref 15, .ref 16, .int 0, .int 0, .int 0, .ref 17, .ref 18, .int 0, .ref 19, .ref 20])))) 1 (.inr (.inr (9, [.ref 2, .ref 4, .ref 6, .ref 7, .ref 14, .null, .null, .null, .null, .null, .null, .int 0, .int 0, .int 0, .int 0])))) 21 (.inr (.inr (5, [.int 0, .null, .null, .int 0, .int 0, .int 0, .null, .null, .int 0, .null, .null])))) 22 (.inl (1, 6, fun _ => 0))) 21 (.inr (.inr (5, [.int 0, .ref 22, .null, .int 0, .int 0, .int 0, .null, .null, .int 0, .null, .null])))) 23 (.inl (0, 6, fun _ => 0))) 21 (.inr (.inr (5, [.int 0, .ref 22, .ref 23, .int 0, .int 0, .int 0, .null, .null, .int 0, .null, .null])))) 24 (.inl (0, 8, fun _ => 0))) 21 (.inr (.inr (5, [.int 0, .ref 22, .ref 23, .int 0, .int 0, .int 0, .ref 24, .null, .int 0, .null, .null])))) 25 (.inl (0, 3, fun _ => 0))) 21 (.inr (.inr (5, [.int 0, .ref 22, .ref 23, .int 0, .int 0, .int 0, .ref 24, .ref 25, .int 0, .null, .null])))) 26 (.inl (0, 8, fun _ => 0))) 21 (.inr (.inr (5, [.int 0, .ref 22, .ref 23, .int 0, .int 0, .int 0, .ref 24, .ref 25, .int 0, .ref 26, .null])))) 27 (.inl (0, 8, fun _ => 0))) 21 (.inr (.inr (5, [.int 0, .ref 22, .ref 23, .int 0, .int 0, .int 0, .ref 24, .ref 25, .int 0, .ref 26, .ref 27])))) 1 (.inr (.inr (9, [.ref 2, .ref 4, .ref 6, .ref 7, .ref 14, .ref 21, .null, .null, .null, .null, .null, .int 0, .int 0, .int 0, .int 0])))) 28 (.inr (.inr (0, [.null, .null, .null, .null])))) 29 (.inl (0, 8, fun _ => 0))) 28 (.inr (.inr (0, [.ref 29, .null, .null, .null])))) 30 (.inl (0, 8, fun _ => 0))) 28 (.inr (.inr (0, [.ref 29, .ref 30, .null, .null])))) 31 (.inl (0, 8, fun _ => 0))) 28 (.inr (.inr (0, [.ref 29, .ref 30, .ref 31, .null])))) 32 (.inl (0, 8, fun _ => 0))) 28 (.inr (.inr (0, [.ref 29, .ref 30, .ref 31, .ref 32])))) 1 (.inr (.inr (9, [.ref 2, .ref 4, .ref 6, .ref 7, .ref 14, .ref 21, .ref 28, .null, .null, .null, .null, .int 0, .int 0, .int 0, .int 0])))) 33 (.inl (0, 8, fun _ => 0))) 1 (.inr (.inr (9, [.ref 2, .ref 4, .ref 6, .ref 7, .ref 14, .ref 21, .ref 28, .ref 33, .null, .null, .null, .int 0, .int 0, .int 0, .int 0])))) 34 (.inl (0, 8, fun _ => 0))) 1 (.inr (.inr (9, [.ref 2, .ref 4, .ref 6, .ref 7, .ref 14, .ref 21, .ref 28, .ref 33, .ref 34, .null, .null, .int 0, .int 0, .int 0, .int 0])))) 35 (.inl (0, 8, fun _ => 0))) 1 (.inr (.inr (9, [.ref 2, .ref 4, .ref 6, .ref 7, .ref 14, .ref 21, .ref 28, .ref 33, .ref 34, .ref 35, .null, .int 0, .int 0, .int 0, .int 0])))) 36 (.inl (0, 32, fun _ => 0))) 1 (.inr (.inr (9, [.ref 2, .ref 4, .ref 6, .ref 7, .ref 14, .ref 21, .ref 28, .ref 33, .ref 34, .ref 35, .ref 36, .int 0, .int 0, .int 0, .int 0])))) 36) : AW mX9_init Q 0 (am_ent (am_l mX9_init) [.ref 1]) [] (va_up (am_h0 L xs) 1 (.inr (.inr (9, [.null, .null, .null, .null, .null, .null, .null, .null, .null, .null, .null, .int 0, .int 0, .int 0, .int 0])))) 1 0 0 := by
  show AW _ _ 0 [some (.ref 1)] [] _ _ 0 0
  refine r_aload_n 1 rfl 0 dX9_init_0 rfl rfl ?_
  refine r_objInit 4 rfl dX9_init_1 (lk_X9_3 rfl) (by decide) (Nat.le_of_ble_eq_true rfl) ?_
  refine r_aload_n 5 rfl 0 dX9_init_4 rfl rfl ?_
  refine s_new 8 2 1 2 rfl rfl rfl dX9_init_5 (nf_X9_9 rfl) rfl (Nat.le_of_ble_eq_true rfl) (Nat.le_of_ble_eq_true rfl) ?_
  refine r_dup 9 rfl dX9_init_8 rfl ?_
  refine q_N 12 2 16 rfl [] rfl dX9_init_9 cl_X9_init__X3_init rfl (by decide +kernel) im_X3_init rfl rfl (Nat.le_of_ble_eq_true rfl) (fun _ _ => Nat.le_of_ble_eq_true rfl) rfl rfl (Nat.le_of_ble_eq_true rfl) (Nat.le_of_ble_eq_true rfl) ?_
  refine c_i3L 2 3 rfl (by decide) rfl (k_v ?_)
  refine r_putf 15 rfl (k := 0) [.ref 2, .null, .null, .null, .null, .null, .null, .null, .null, .null, .null, .int 0, .int 0, .int 0, .int 0] dX9_init_12 (pf_X9_12_9 rfl rfl) rfl (Nat.le_of_ble_eq_true rfl) rfl (fun _ _ => ⟨rfl, rfl⟩) ?_
  refine r_aload_n 16 rfl 0 dX9_init_15 rfl rfl ?_
  refine s_new 19 4 3 19 rfl rfl rfl dX9_init_16 (nf_X9_16 rfl) rfl (Nat.le_of_ble_eq_true rfl) (Nat.le_of_ble_eq_true rfl) ?_
  refine r_dup 20 rfl dX9_init_19 rfl ?_
  refine q_N 23 4 27 rfl [] rfl dX9_init_20 cl_X9_init__X7_init rfl (by decide +kernel) im_X7_init rfl rfl (Nat.le_of_ble_eq_true rfl) (fun _ _ => Nat.le_of_ble_eq_true rfl) rfl rfl (Nat.le_of_ble_eq_true rfl) (Nat.le_of_ble_eq_true rfl) ?_
  refine c_i7L 4 5 rfl (by decide) rfl (k_v ?_)
  refine r_putf 26 rfl (k := 1) [.ref 2, .ref 4, .null, .null, .null, .null, .null, .null, .null, .null, .null, .int 0, .int 0, .int 0, .int 0] dX9_init_23 (pf_X9_19_9 rfl rfl) rfl (Nat.le_of_ble_eq_true rfl) rfl (fun _ _ => ⟨rfl, rfl⟩) ?_
  refine r_aload_n 27 rfl 0 dX9_init_26 rfl rfl ?_
  refine r_bipush 29 rfl 6 dX9_init_27 (by decide) ?_
  refine s_anewa 32 6 5 33 rfl rfl 6 rfl rfl dX9_init_29 (ck_X9_23 rfl) rfl (by decide) (Nat.le_of_ble_eq_true rfl) (Nat.le_of_ble_eq_true rfl) ?_
  refine r_putf 35 rfl (k := 2) [.ref 2, .ref 4, .ref 6, .null, .null, .null, .null, .null, .null, .null, .null, .int 0, .int 0, .int 0, .int 0] dX9_init_32 (pf_X9_25_9 rfl rfl) rfl (Nat.le_of_ble_eq_true rfl) rfl (fun _ _ => ⟨rfl, rfl⟩) ?_
  refine r_aload_n 36 rfl 0 dX9_init_35 rfl rfl ?_
  refine s_new 39 7 6 44 rfl rfl rfl dX9_init_36 (nf_X9_29 rfl) rfl (Nat.le_of_ble_eq_true rfl) (Nat.le_of_ble_eq_true rfl) ?_
  refine r_dup 40 rfl dX9_init_39 rfl ?_
  refine q_N 43 12 83 rfl [] rfl dX9_init_40 cl_X9_init__X5_init rfl (by decide +kernel) im_X5_init rfl rfl (Nat.le_of_ble_eq_true rfl) (fun _ _ => Nat.le_of_ble_eq_true rfl) rfl rfl (Nat.le_of_ble_eq_true rfl) (Nat.le_of_ble_eq_true rfl) ?_
  refine c_init5L 7 8 9 10 11 12 13 rfl (by decide) rfl rfl rfl rfl rfl rfl (k_v ?_)
  refine r_putf 46 rfl (k := 3) [.ref 2, .ref 4, .ref 6, .ref 7, .null, .null, .null, .null, .null, .null, .null, .int 0, .int 0, .int 0, .int 0] dX9_init_43 (pf_X9_32_9 rfl rfl) rfl (Nat.le_of_ble_eq_true rfl) rfl (fun _ _ => ⟨rfl, rfl⟩) ?_
  refine r_aload_n 47 rfl 0 dX9_init_46 rfl rfl ?_
  refine s_new 50 14 13 94 rfl rfl rfl dX9_init_47 (nf_X9_29 rfl) rfl (Nat.le_of_ble_eq_true rfl) (Nat.le_of_ble_eq_true rfl) ?_
  refine r_dup 51 rfl dX9_init_50 rfl ?_
  refine q_N 54 19 133 rfl [] rfl dX9_init_51 cl_X9_init__X5_init rfl (by decide +kernel) im_X5_init rfl rfl (Nat.le_of_ble_eq_true rfl) (fun _ _ => Nat.le_of_ble_eq_true rfl) rfl rfl (Nat.le_of_ble_eq_true rfl) (Nat.le_of_ble_eq_true rfl) ?_
  refine c_init5L 14 15 16 17 18 19 20 rfl (by decide) rfl rfl rfl rfl rfl rfl (k_v ?_)
  refine r_putf 57 rfl (k := 4) [.ref 2, .ref 4, .ref 6, .ref 7, .ref 14, .null, .null, .null, .null, .null, .null, .int 0, .int 0, .int 0, .int 0] dX9_init_54 (pf_X9_36_9 rfl rfl) rfl (Nat.le_of_ble_eq_true rfl) rfl (fun _ _ => ⟨rfl, rfl⟩) ?_
  refine r_aload_n 58 rfl 0 dX9_init_57 rfl rfl ?_
  refine s_new 61 21 20 144 rfl rfl rfl dX9_init_58 (nf_X9_29 rfl) rfl (Nat.le_of_ble_eq_true rfl) (Nat.le_of_ble_eq_true rfl) ?_
  refine r_dup 62 rfl dX9_init_61 rfl ?_
  refine q_N 65 26 183 rfl [] rfl dX9_init_62 cl_X9_init__X5_init rfl (by decide +kernel) im_X5_init rfl rfl (Nat.le_of_ble_eq_true rfl) (fun _ _ => Nat.le_of_ble_eq_true rfl) rfl rfl (Nat.le_of_ble_eq_true rfl) (Nat.le_of_ble_eq_true rfl) ?_
  refine c_init5L 21 22 23 24 25 26 27 rfl (by decide) rfl rfl rfl rfl rfl rfl (k_v ?_)
  refine r_putf 68 rfl (k := 5) [.ref 2, .ref 4, .ref 6, .ref 7, .ref 14, .ref 21, .null, .null, .null, .null, .null, .int 0, .int 0, .int 0, .int 0] dX9_init_65 (pf_X9_39_9 rfl rfl) rfl (Nat.le_of_ble_eq_true rfl) rfl (fun _ _ => ⟨rfl, rfl⟩) ?_
  refine r_aload_n 69 rfl 0 dX9_init_68 rfl rfl ?_
  refine s_new 72 28 27 187 rfl rfl rfl dX9_init_69 (nf_X9_42 rfl) rfl (Nat.le_of_ble_eq_true rfl) (Nat.le_of_ble_eq_true rfl) ?_
  refine r_dup 73 rfl dX9_init_72 rfl ?_
  refine q_N 76 31 219 rfl [] rfl dX9_init_73 cl_X9_init__X0_init rfl (by decide +kernel) im_X0_init rfl rfl (Nat.le_of_ble_eq_true rfl) (fun _ _ => Nat.le_of_ble_eq_true rfl) rfl rfl (Nat.le_of_ble_eq_true rfl) (Nat.le_of_ble_eq_true rfl) ?_
  refine c_i0L 28 29 30 31 32 rfl (by decide) rfl rfl rfl rfl (k_v ?_)
  refine r_putf 79 rfl (k := 6) [.ref 2, .ref 4, .ref 6, .ref 7, .ref 14, .ref 21, .ref 28, .null, .null, .null, .null, .int 0, .int 0, .int 0, .int 0] dX9_init_76 (pf_X9_45_9 rfl rfl) rfl (Nat.le_of_ble_eq_true rfl) rfl (fun _ _ => ⟨rfl, rfl⟩) ?_
  refine r_aload_n 80 rfl 0 dX9_init_79 rfl rfl ?_
  refine r_bipush 82 rfl 8 dX9_init_80 (by decide) ?_
  refine s_newaI 84 33 32 227 rfl rfl 8 rfl rfl dX9_init_82 rfl (by decide) (Nat.le_of_ble_eq_true rfl) (Nat.le_of_ble_eq_true rfl) ?_
  refine r_putf 87 rfl (k := 7) [.ref 2, .ref 4, .ref 6, .ref 7, .ref 14, .ref 21, .ref 28, .ref 33, .null, .null, .null, .int 0, .int 0, .int 0, .int 0] dX9_init_84 (pf_X9_49_9 rfl rfl) rfl (Nat.le_of_ble_eq_true rfl) rfl (fun _ _ => ⟨rfl, rfl⟩) ?_
  refine r_aload_n 88 rfl 0 dX9_init_87 rfl rfl ?_
  refine r_bipush 90 rfl 8 dX9_init_88 (by decide) ?_
  refine s_newaI 92 34 33 235 rfl rfl 8 rfl rfl dX9_init_90 rfl (by decide) (Nat.le_of_ble_eq_true rfl) (Nat.le_of_ble_eq_true rfl) ?_
  refine r_putf 95 rfl (k := 8) [.ref 2, .ref 4, .ref 6, .ref 7, .ref 14, .ref 21, .ref 28, .ref 33, .ref 34, .null, .null, .int 0, .int 0, .int 0, .int 0] dX9_init_92 (pf_X9_53_9 rfl rfl) rfl (Nat.le_of_ble_eq_true rfl) rfl (fun _ _ => ⟨rfl, rfl⟩) ?_
  refine r_aload_n 96 rfl 0 dX9_init_95 rfl rfl ?_
  refine r_bipush 98 rfl 8 dX9_init_96 (by decide) ?_
  refine s_newaI 100 35 34 243 rfl rfl 8 rfl rfl dX9_init_98 rfl (by decide) (Nat.le_of_ble_eq_true rfl) (Nat.le_of_ble_eq_true rfl) ?_
  refine r_putf 103 rfl (k := 9) [.ref 2, .ref 4, .ref 6, .ref 7, .ref 14, .ref 21, .ref 28, .ref 33, .ref 34, .ref 35, .null, .int 0, .int 0, .int 0, .int 0] dX9_init_100 (pf_X9_56_9 rfl rfl) rfl (Nat.le_of_ble_eq_true rfl) rfl (fun _ _ => ⟨rfl, rfl⟩) ?_
  refine r_aload_n 104 rfl 0 dX9_init_103 rfl rfl ?_
  refine r_bipush 106 rfl 32 dX9_init_104 (by decide) ?_
  refine s_newaI 108 36 35 275 rfl rfl 32 rfl rfl dX9_init_106 rfl (by decide) (Nat.le_of_ble_eq_true rfl) (Nat.le_of_ble_eq_true rfl) ?_
  refine r_putf 111 rfl (k := 10) [.ref 2, .ref 4, .ref 6, .ref 7, .ref 14, .ref 21, .ref 28, .ref 33, .ref 34, .ref 35, .ref 36, .int 0, .int 0, .int 0, .int 0] dX9_init_108 (pf_X9_59_9 rfl rfl) rfl (Nat.le_of_ble_eq_true rfl) rfl (fun _ _ => ⟨rfl, rfl⟩) ?_
  refine r_return rfl dX9_init_111 (Nat.le_of_ble_eq_true rfl) (Nat.le_of_ble_eq_true rfl) ?_
  exact k

def z0 (L : Nat) (xs : Nat → Int32) : am_Z := ((L, xs), fun _ => none, fun _ => am_0, 0)
def m0 : Nat → Nat → Int32 := fun k j => if k = 37 ∧ j = 23 then -1 else 0

set_option maxHeartbeats 4000000 in
set_option maxRecDepth 20000 in
theorem c_i9w {Q : am_P} {L : Nat} {xs : Nat → Int32} (k : ∀ T : Nat → am_E, (∀ x, x ≤ 36 → T x = wd (z0 L xs) m0 x) → Q none T 36) : AW mX9_init Q 0 (am_ent (am_l mX9_init) [.ref 1]) [] (va_up (am_h0 L xs) 1 (.inr (.inr (9, [.null, .null, .null, .null, .null, .null, .null, .null, .null, .null, .null, .int 0, .int 0, .int 0, .int 0])))) 1 0 0 := by
  refine c_i9 (k _ ?_)
  intro x hx
  match x, hx with
  | 0, _ => rfl
  | 1, _ => rfl
  | 2, _ => rfl
  | 3, _ => rfl
  | 4, _ => rfl
  | 5, _ => rfl
  | 6, _ => rfl
  | 7, _ => rfl
  | 8, _ => rfl
  | 9, _ => rfl
  | 10, _ => rfl
  | 11, _ => rfl
  | 12, _ => rfl
  | 13, _ => rfl
  | 14, _ => rfl
  | 15, _ => rfl
  | 16, _ => rfl
  | 17, _ => rfl
  | 18, _ => rfl
  | 19, _ => rfl
  | 20, _ => rfl
  | 21, _ => rfl
  | 22, _ => rfl
  | 23, _ => rfl
  | 24, _ => rfl
  | 25, _ => rfl
  | 26, _ => rfl
  | 27, _ => rfl
  | 28, _ => rfl
  | 29, _ => rfl
  | 30, _ => rfl
  | 31, _ => rfl
  | 32, _ => rfl
  | 33, _ => rfl
  | 34, _ => rfl
  | 35, _ => rfl
  | 36, _ => rfl
  | x + 37, h => omega

set_option maxHeartbeats 4000000 in
set_option maxRecDepth 20000 in
theorem c_i10 {Q : am_P} {h : Nat → am_E} (k : Q none (va_up (va_up (va_up (va_up (va_up (va_up (va_up (va_up (va_up (va_up (va_up (va_up (va_up (va_up (va_up (va_up (va_up (va_up (va_up (va_up (va_up (va_up (va_up (va_up (va_up (va_up (va_up (va_up (va_up (va_up (va_up (va_up (va_up (va_up h 37 (.inr (.inr (10, [.null, .int 0, .int 0, .int 0, .int 0, .int 0, .int 0, .null, .null, .null, .int 0, .null, .null, .null, .null, .int 0, .null, .null, .int 0, .int 0, .null, .null, .int 0, .int 0, .int 0, .int 0, .int 0, .int 0, .int 0, .null, .null, .null, .null, .long 0])))) 38 (.inl (0, 14, fun _ => 0))) 37 (.inr (.inr (10, [.ref 38, .int 0, .int 0, .int 0, .int 0, .int 0, .int 0, .null, .null, .null, .int 0, .null, .null, .null, .null, .int 0, .null, .null, .int 0, .int 0, .null, .null, .int 0, .int 0, .int 0, .int 0, .int 0, .int 0, .int 0, .null, .null, .null, .null, .long 0])))) 39 (.inl (0, 8, fun _ => 0))) 37 (.inr (.inr (10, [.ref 38, .int 0, .int 0, .int 0, .int 0, .int 0, .int 0, .ref 39, .null, .null, .int 0, .null, .null, .null, .null, .int 0, .null, .null, .int 0, .int 0, .null, .null, .int 0, .int 0, .int 0, .int 0, .int 0, .int 0, .int 0, .null, .null, .null, .null, .long 0])))) 40 (.inl (0, 8, fun _ => 0))) 37 (.inr (.inr (10, [.ref 38, .int 0, .int 0, .int 0, .int 0, .int 0, .int 0, .ref 39, .ref 40, .null, .int 0, .null, .null, .null, .null, .int 0, .null, .null, .int 0, .int 0, .null, .null, .int 0, .int 0, .int 0, .int 0, .int 0, .int 0, .int 0, .null, .null, .null, .null, .long 0])))) 41 (.inl (0, 3, fun _ => 0))) 37 (.inr (.inr (10, [.ref 38, .int 0, .int 0, .int 0, .int 0, .int 0, .int 0, .ref 39, .ref 40, .ref 41, .int 0, .null, .null, .null, .null, .int 0, .null, .null, .int 0, .int 0, .null, .null, .int 0, .int 0, .int 0, .int 0, .int 0, .int 0, .int 0, .null, .null, .null, .null, .long 0])))) 42 (.inl (0, 42, fun _ => 0))) 37 (.inr (.inr (10, [.ref 38, .int 0, .int 0, .int 0, .int 0, .int 0, .int 0, .ref 39, .ref 40, .ref 41, .int 0, .ref 42, .null, .null, .null, .int 0, .null, .null, .int 0, .int 0, .null, .null, .int 0, .int 0, .int 0, .int 0, .int 0, .int 0, .int 0, .null, .null, .null, .null, .long 0])))) 43 (.inl (0, 8, fun _ => 0))) 37 (.inr (.inr (10, [.ref 38, .int 0, .int 0, .int 0, .int 0, .int 0, .int 0, .ref 39, .ref 40, .ref 41, .int 0, .ref 42, .ref 43, .null, .null, .int 0, .null, .null, .int 0, .int 0, .null, .null, .int 0, .int 0, .int 0, .int 0, .int 0, .int 0, .int 0, .null, .null, .null, .null, .long 0])))) 44 (.inl (0, 8, fun _ => 0))) 37 (.inr (.inr (10, [.ref 38, .int 0, .int 0, .int 0, .int 0, .int 0, .int 0, .ref 39, .ref 40, .ref 41, .int 0, .ref 42, .ref 43, .ref 44, .null, .int 0, .null, .null, .int 0, .int 0, .null, .null, .int 0, .int 0, .int 0, .int 0, .int 0, .int 0, .int 0, .null, .null, .null, .null, .long 0])))) 45 (.inl (0, 8, fun _ => 0))) 37 (.inr (.inr (10, [.ref 38, .int 0, .int 0, .int 0, .int 0, .int 0, .int 0, .ref 39, .ref 40, .ref 41, .int 0, .ref 42, .ref 43, .ref 44, .ref 45, .int 0, .null, .null, .int 0, .int 0, .null, .null, .int 0, .int 0, .int 0, .int 0, .int 0, .int 0, .int 0, .null, .null, .null, .null, .long 0])))) 46 (.inl (0, 8, fun _ => 0))) 37 (.inr (.inr (10, [.ref 38, .int 0, .int 0, .int 0, .int 0, .int 0, .int 0, .ref 39, .ref 40, .ref 41, .int 0, .ref 42, .ref 43, .ref 44, .ref 45, .int 0, .ref 46, .null, .int 0, .int 0, .null, .null, .int 0, .int 0, .int 0, .int 0, .int 0, .int 0, .int 0, .null, .null, .null, .null, .long 0])))) 47 (.inl (0, 42, fun _ => 0))) 37 (.inr (.inr (10, [.ref 38, .int 0, .int 0, .int 0, .int 0, .int 0, .int 0, .ref 39, .ref 40, .ref 41, .int 0, .ref 42, .ref 43, .ref 44, .ref 45, .int 0, .ref 46, .ref 47, .int 0, .int 0, .null, .null, .int 0, .int 0, .int 0, .int 0, .int 0, .int 0, .int 0, .null, .null, .null, .null, .long 0])))) 48 (.inl (0, 16, fun _ => 0))) 37 (.inr (.inr (10, [.ref 38, .int 0, .int 0, .int 0, .int 0, .int 0, .int 0, .ref 39, .ref 40, .ref 41, .int 0, .ref 42, .ref 43, .ref 44, .ref 45, .int 0, .ref 46, .ref 47, .int 0, .int 0, .ref 48, .null, .int 0, .int 0, .int 0, .int 0, .int 0, .int 0, .int 0, .null, .null, .null, .null, .long 0])))) 49 (.inl (0, 32, fun _ => 0))) 37 (.inr (.inr (10, [.ref 38, .int 0, .int 0, .int 0, .int 0, .int 0, .int 0, .ref 39, .ref 40, .ref 41, .int 0, .ref 42, .ref 43, .ref 44, .ref 45, .int 0, .ref 46, .ref 47, .int 0, .int 0, .ref 48, .ref 49, .int 0, .int 0, .int 0, .int 0, .int 0, .int 0, .int 0, .null, .null, .null, .null, .long 0])))) 50 (.inl (0, 42, fun _ => 0))) 37 (.inr (.inr (10, [.ref 38, .int 0, .int 0, .int 0, .int 0, .int 0, .int 0, .ref 39, .ref 40, .ref 41, .int 0, .ref 42, .ref 43, .ref 44, .ref 45, .int 0, .ref 46, .ref 47, .int 0, .int 0, .ref 48, .ref 49, .int 0, .int 0, .int 0, .int 0, .int 0, .int 0, .int 0, .ref 50, .null, .null, .null, .long 0])))) 51 (.inl (0, 8, fun _ => 0))) 37 (.inr (.inr (10, [.ref 38, .int 0, .int 0, .int 0, .int 0, .int 0, .int 0, .ref 39, .ref 40, .ref 41, .int 0, .ref 42, .ref 43, .ref 44, .ref 45, .int 0, .ref 46, .ref 47, .int 0, .int 0, .ref 48, .ref 49, .int 0, .int 0, .int 0, .int 0, .int 0, .int 0, .int 0, .ref 50, .ref 51, .null, .null, .long 0])))) 52 (.inl (0, 3, fun _ => 0))) 37 (.inr (.inr (10, [.ref 38, .int 0, .int 0, .int 0, .int 0, .int 0, .int 0, .ref 39, .ref 40, .ref 41, .int 0, .ref 42, .ref 43, .ref 44, .ref 45, .int 0, .ref 46, .ref 47, .int 0, .int 0, .ref 48, .ref 49, .int 0, .int 0, .int 0, .int 0, .int 0, .int 0, .int 0, .ref 50, .ref 51, .ref 52, .null, .long 0])))) 53 (.inl (0, 16, fun _ => 0))) 37 (.inr (.inr (10, [.ref 38, .int 0, .int 0, .int 0, .int 0, .int 0, .int 0, .ref 39, .ref 40, .ref 41, .int 0, .ref 42, .ref 43, .ref 44, .ref 45, .int 0, .ref 46, .ref 47, .int 0, .int 0, .ref 48, .ref 49, .int 0, .int 0, .int 0, .int 0, .int 0, .int 0, .int 0, .ref 50, .ref 51, .ref 52, .ref 53, .long 0])))) 37 (.inr (.inr (10, [.ref 38, .int 0, .int 0, .int 0, .int 0, .int 0, .int 0, .ref 39, .ref 40, .ref 41, .int 0, .ref 42, .ref 43, .ref 44, .ref 45, .int 0, .ref 46, .ref 47, .int 0, .int 0, .ref 48, .ref 49, .int 0, .int (-1), .int 0, .int 0, .int 0, .int 0, .int 0, .ref 50, .ref 51, .ref 52, .ref 53, .long 0])))) 53) : AW mX10_init Q 0 (am_ent (am_l mX10_init) [.ref 37]) [] (va_up h 37 (.inr (.inr (10, [.null, .int 0, .int 0, .int 0, .int 0, .int 0, .int 0, .null, .null, .null, .int 0, .null, .null, .null, .null, .int 0, .null, .null, .int 0, .int 0, .null, .null, .int 0, .int 0, .int 0, .int 0, .int 0, .int 0, .int 0, .null, .null, .null, .null, .long 0])))) 37 0 0 := by
  show AW _ _ 0 [some (.ref 37)] [] _ _ 0 0
  refine r_aload_n 1 rfl 0 dX10_init_0 rfl rfl ?_
  refine r_objInit 4 rfl dX10_init_1 (lk_X10_1 rfl) (by decide) (Nat.le_of_ble_eq_true rfl) ?_
  refine r_aload_n 5 rfl 0 dX10_init_4 rfl rfl ?_
  refine r_bipush 7 rfl 14 dX10_init_5 (by decide) ?_
  refine s_newaI 9 38 1 14 rfl rfl 14 rfl rfl dX10_init_7 rfl (by decide) (Nat.le_of_ble_eq_true rfl) (Nat.le_of_ble_eq_true rfl) ?_
  refine r_putf 12 rfl (k := 0) [.ref 38, .int 0, .int 0, .int 0, .int 0, .int 0, .int 0, .null, .null, .null, .int 0, .null, .null, .null, .null, .int 0, .null, .null, .int 0, .int 0, .null, .null, .int 0, .int 0, .int 0, .int 0, .int 0, .int 0, .int 0, .null, .null, .null, .null, .long 0] dX10_init_9 (pf_X10_7_10 rfl rfl) rfl (Nat.le_of_ble_eq_true rfl) rfl (fun _ _ => ⟨rfl, rfl⟩) ?_
  refine r_aload_n 13 rfl 0 dX10_init_12 rfl rfl ?_
  refine r_bipush 15 rfl 8 dX10_init_13 (by decide) ?_
  refine s_newaI 17 39 2 22 rfl rfl 8 rfl rfl dX10_init_15 rfl (by decide) (Nat.le_of_ble_eq_true rfl) (Nat.le_of_ble_eq_true rfl) ?_
  refine r_putf 20 rfl (k := 7) [.ref 38, .int 0, .int 0, .int 0, .int 0, .int 0, .int 0, .ref 39, .null, .null, .int 0, .null, .null, .null, .null, .int 0, .null, .null, .int 0, .int 0, .null, .null, .int 0, .int 0, .int 0, .int 0, .int 0, .int 0, .int 0, .null, .null, .null, .null, .long 0] dX10_init_17 (pf_X10_13_10 rfl rfl) rfl (Nat.le_of_ble_eq_true rfl) rfl (fun _ _ => ⟨rfl, rfl⟩) ?_
  refine r_aload_n 21 rfl 0 dX10_init_20 rfl rfl ?_
  refine r_bipush 23 rfl 8 dX10_init_21 (by decide) ?_
  refine s_newaI 25 40 3 30 rfl rfl 8 rfl rfl dX10_init_23 rfl (by decide) (Nat.le_of_ble_eq_true rfl) (Nat.le_of_ble_eq_true rfl) ?_
  refine r_putf 28 rfl (k := 8) [.ref 38, .int 0, .int 0, .int 0, .int 0, .int 0, .int 0, .ref 39, .ref 40, .null, .int 0, .null, .null, .null, .null, .int 0, .null, .null, .int 0, .int 0, .null, .null, .int 0, .int 0, .int 0, .int 0, .int 0, .int 0, .int 0, .null, .null, .null, .null, .long 0] dX10_init_25 (pf_X10_16_10 rfl rfl) rfl (Nat.le_of_ble_eq_true rfl) rfl (fun _ _ => ⟨rfl, rfl⟩) ?_
  refine r_aload_n 29 rfl 0 dX10_init_28 rfl rfl ?_
  refine r_iconst 30 rfl 3 dX10_init_29 rfl ?_
  refine s_newaI 32 41 4 33 rfl rfl 3 rfl rfl dX10_init_30 rfl (by decide) (Nat.le_of_ble_eq_true rfl) (Nat.le_of_ble_eq_true rfl) ?_
  refine r_putf 35 rfl (k := 9) [.ref 38, .int 0, .int 0, .int 0, .int 0, .int 0, .int 0, .ref 39, .ref 40, .ref 41, .int 0, .null, .null, .null, .null, .int 0, .null, .null, .int 0, .int 0, .null, .null, .int 0, .int 0, .int 0, .int 0, .int 0, .int 0, .int 0, .null, .null, .null, .null, .long 0] dX10_init_32 (pf_X10_19_10 rfl rfl) rfl (Nat.le_of_ble_eq_true rfl) rfl (fun _ _ => ⟨rfl, rfl⟩) ?_
  refine r_aload_n 36 rfl 0 dX10_init_35 rfl rfl ?_
  refine r_bipush 38 rfl 42 dX10_init_36 (by decide) ?_
  refine s_newaI 40 42 5 75 rfl rfl 42 rfl rfl dX10_init_38 rfl (by decide) (Nat.le_of_ble_eq_true rfl) (Nat.le_of_ble_eq_true rfl) ?_
  refine r_putf 43 rfl (k := 11) [.ref 38, .int 0, .int 0, .int 0, .int 0, .int 0, .int 0, .ref 39, .ref 40, .ref 41, .int 0, .ref 42, .null, .null, .null, .int 0, .null, .null, .int 0, .int 0, .null, .null, .int 0, .int 0, .int 0, .int 0, .int 0, .int 0, .int 0, .null, .null, .null, .null, .long 0] dX10_init_40 (pf_X10_22_10 rfl rfl) rfl (Nat.le_of_ble_eq_true rfl) rfl (fun _ _ => ⟨rfl, rfl⟩) ?_
  refine r_aload_n 44 rfl 0 dX10_init_43 rfl rfl ?_
  refine r_bipush 46 rfl 8 dX10_init_44 (by decide) ?_
  refine s_newaI 48 43 6 83 rfl rfl 8 rfl rfl dX10_init_46 rfl (by decide) (Nat.le_of_ble_eq_true rfl) (Nat.le_of_ble_eq_true rfl) ?_
  refine r_putf 51 rfl (k := 12) [.ref 38, .int 0, .int 0, .int 0, .int 0, .int 0, .int 0, .ref 39, .ref 40, .ref 41, .int 0, .ref 42, .ref 43, .null, .null, .int 0, .null, .null, .int 0, .int 0, .null, .null, .int 0, .int 0, .int 0, .int 0, .int 0, .int 0, .int 0, .null, .null, .null, .null, .long 0] dX10_init_48 (pf_X10_25_10 rfl rfl) rfl (Nat.le_of_ble_eq_true rfl) rfl (fun _ _ => ⟨rfl, rfl⟩) ?_
  refine r_aload_n 52 rfl 0 dX10_init_51 rfl rfl ?_
  refine r_bipush 54 rfl 8 dX10_init_52 (by decide) ?_
  refine s_newaI 56 44 7 91 rfl rfl 8 rfl rfl dX10_init_54 rfl (by decide) (Nat.le_of_ble_eq_true rfl) (Nat.le_of_ble_eq_true rfl) ?_
  refine r_putf 59 rfl (k := 13) [.ref 38, .int 0, .int 0, .int 0, .int 0, .int 0, .int 0, .ref 39, .ref 40, .ref 41, .int 0, .ref 42, .ref 43, .ref 44, .null, .int 0, .null, .null, .int 0, .int 0, .null, .null, .int 0, .int 0, .int 0, .int 0, .int 0, .int 0, .int 0, .null, .null, .null, .null, .long 0] dX10_init_56 (pf_X10_28_10 rfl rfl) rfl (Nat.le_of_ble_eq_true rfl) rfl (fun _ _ => ⟨rfl, rfl⟩) ?_
  refine r_aload_n 60 rfl 0 dX10_init_59 rfl rfl ?_
  refine r_bipush 62 rfl 8 dX10_init_60 (by decide) ?_
  refine s_newaI 64 45 8 99 rfl rfl 8 rfl rfl dX10_init_62 rfl (by decide) (Nat.le_of_ble_eq_true rfl) (Nat.le_of_ble_eq_true rfl) ?_
  refine r_putf 67 rfl (k := 14) [.ref 38, .int 0, .int 0, .int 0, .int 0, .int 0, .int 0, .ref 39, .ref 40, .ref 41, .int 0, .ref 42, .ref 43, .ref 44, .ref 45, .int 0, .null, .null, .int 0, .int 0, .null, .null, .int 0, .int 0, .int 0, .int 0, .int 0, .int 0, .int 0, .null, .null, .null, .null, .long 0] dX10_init_64 (pf_X10_31_10 rfl rfl) rfl (Nat.le_of_ble_eq_true rfl) rfl (fun _ _ => ⟨rfl, rfl⟩) ?_
  refine r_aload_n 68 rfl 0 dX10_init_67 rfl rfl ?_
  refine r_bipush 70 rfl 8 dX10_init_68 (by decide) ?_
  refine s_newaI 72 46 9 107 rfl rfl 8 rfl rfl dX10_init_70 rfl (by decide) (Nat.le_of_ble_eq_true rfl) (Nat.le_of_ble_eq_true rfl) ?_
  refine r_putf 75 rfl (k := 16) [.ref 38, .int 0, .int 0, .int 0, .int 0, .int 0, .int 0, .ref 39, .ref 40, .ref 41, .int 0, .ref 42, .ref 43, .ref 44, .ref 45, .int 0, .ref 46, .null, .int 0, .int 0, .null, .null, .int 0, .int 0, .int 0, .int 0, .int 0, .int 0, .int 0, .null, .null, .null, .null, .long 0] dX10_init_72 (pf_X10_34_10 rfl rfl) rfl (Nat.le_of_ble_eq_true rfl) rfl (fun _ _ => ⟨rfl, rfl⟩) ?_
  refine r_aload_n 76 rfl 0 dX10_init_75 rfl rfl ?_
  refine r_bipush 78 rfl 42 dX10_init_76 (by decide) ?_
  refine s_newaI 80 47 10 149 rfl rfl 42 rfl rfl dX10_init_78 rfl (by decide) (Nat.le_of_ble_eq_true rfl) (Nat.le_of_ble_eq_true rfl) ?_
  refine r_putf 83 rfl (k := 17) [.ref 38, .int 0, .int 0, .int 0, .int 0, .int 0, .int 0, .ref 39, .ref 40, .ref 41, .int 0, .ref 42, .ref 43, .ref 44, .ref 45, .int 0, .ref 46, .ref 47, .int 0, .int 0, .null, .null, .int 0, .int 0, .int 0, .int 0, .int 0, .int 0, .int 0, .null, .null, .null, .null, .long 0] dX10_init_80 (pf_X10_37_10 rfl rfl) rfl (Nat.le_of_ble_eq_true rfl) rfl (fun _ _ => ⟨rfl, rfl⟩) ?_
  refine r_aload_n 84 rfl 0 dX10_init_83 rfl rfl ?_
  refine r_bipush 86 rfl 16 dX10_init_84 (by decide) ?_
  refine s_newaI 88 48 11 165 rfl rfl 16 rfl rfl dX10_init_86 rfl (by decide) (Nat.le_of_ble_eq_true rfl) (Nat.le_of_ble_eq_true rfl) ?_
  refine r_putf 91 rfl (k := 20) [.ref 38, .int 0, .int 0, .int 0, .int 0, .int 0, .int 0, .ref 39, .ref 40, .ref 41, .int 0, .ref 42, .ref 43, .ref 44, .ref 45, .int 0, .ref 46, .ref 47, .int 0, .int 0, .ref 48, .null, .int 0, .int 0, .int 0, .int 0, .int 0, .int 0, .int 0, .null, .null, .null, .null, .long 0] dX10_init_88 (pf_X10_40_10 rfl rfl) rfl (Nat.le_of_ble_eq_true rfl) rfl (fun _ _ => ⟨rfl, rfl⟩) ?_
  refine r_aload_n 92 rfl 0 dX10_init_91 rfl rfl ?_
  refine r_bipush 94 rfl 32 dX10_init_92 (by decide) ?_
  refine s_newaI 96 49 12 197 rfl rfl 32 rfl rfl dX10_init_94 rfl (by decide) (Nat.le_of_ble_eq_true rfl) (Nat.le_of_ble_eq_true rfl) ?_
  refine r_putf 99 rfl (k := 21) [.ref 38, .int 0, .int 0, .int 0, .int 0, .int 0, .int 0, .ref 39, .ref 40, .ref 41, .int 0, .ref 42, .ref 43, .ref 44, .ref 45, .int 0, .ref 46, .ref 47, .int 0, .int 0, .ref 48, .ref 49, .int 0, .int 0, .int 0, .int 0, .int 0, .int 0, .int 0, .null, .null, .null, .null, .long 0] dX10_init_96 (pf_X10_43_10 rfl rfl) rfl (Nat.le_of_ble_eq_true rfl) rfl (fun _ _ => ⟨rfl, rfl⟩) ?_
  refine r_aload_n 100 rfl 0 dX10_init_99 rfl rfl ?_
  refine r_bipush 102 rfl 42 dX10_init_100 (by decide) ?_
  refine s_newaI 104 50 13 239 rfl rfl 42 rfl rfl dX10_init_102 rfl (by decide) (Nat.le_of_ble_eq_true rfl) (Nat.le_of_ble_eq_true rfl) ?_
  refine r_putf 107 rfl (k := 29) [.ref 38, .int 0, .int 0, .int 0, .int 0, .int 0, .int 0, .ref 39, .ref 40, .ref 41, .int 0, .ref 42, .ref 43, .ref 44, .ref 45, .int 0, .ref 46, .ref 47, .int 0, .int 0, .ref 48, .ref 49, .int 0, .int 0, .int 0, .int 0, .int 0, .int 0, .int 0, .ref 50, .null, .null, .null, .long 0] dX10_init_104 (pf_X10_46_10 rfl rfl) rfl (Nat.le_of_ble_eq_true rfl) rfl (fun _ _ => ⟨rfl, rfl⟩) ?_
  refine r_aload_n 108 rfl 0 dX10_init_107 rfl rfl ?_
  refine r_bipush 110 rfl 8 dX10_init_108 (by decide) ?_
  refine s_newaI 112 51 14 247 rfl rfl 8 rfl rfl dX10_init_110 rfl (by decide) (Nat.le_of_ble_eq_true rfl) (Nat.le_of_ble_eq_true rfl) ?_
  refine r_putf 115 rfl (k := 30) [.ref 38, .int 0, .int 0, .int 0, .int 0, .int 0, .int 0, .ref 39, .ref 40, .ref 41, .int 0, .ref 42, .ref 43, .ref 44, .ref 45, .int 0, .ref 46, .ref 47, .int 0, .int 0, .ref 48, .ref 49, .int 0, .int 0, .int 0, .int 0, .int 0, .int 0, .int 0, .ref 50, .ref 51, .null, .null, .long 0] dX10_init_112 (pf_X10_49_10 rfl rfl) rfl (Nat.le_of_ble_eq_true rfl) rfl (fun _ _ => ⟨rfl, rfl⟩) ?_
  refine r_aload_n 116 rfl 0 dX10_init_115 rfl rfl ?_
  refine r_iconst 117 rfl 3 dX10_init_116 rfl ?_
  refine s_newaI 119 52 15 250 rfl rfl 3 rfl rfl dX10_init_117 rfl (by decide) (Nat.le_of_ble_eq_true rfl) (Nat.le_of_ble_eq_true rfl) ?_
  refine r_putf 122 rfl (k := 31) [.ref 38, .int 0, .int 0, .int 0, .int 0, .int 0, .int 0, .ref 39, .ref 40, .ref 41, .int 0, .ref 42, .ref 43, .ref 44, .ref 45, .int 0, .ref 46, .ref 47, .int 0, .int 0, .ref 48, .ref 49, .int 0, .int 0, .int 0, .int 0, .int 0, .int 0, .int 0, .ref 50, .ref 51, .ref 52, .null, .long 0] dX10_init_119 (pf_X10_52_10 rfl rfl) rfl (Nat.le_of_ble_eq_true rfl) rfl (fun _ _ => ⟨rfl, rfl⟩) ?_
  refine r_aload_n 123 rfl 0 dX10_init_122 rfl rfl ?_
  refine r_bipush 125 rfl 16 dX10_init_123 (by decide) ?_
  refine s_newaI 127 53 16 266 rfl rfl 16 rfl rfl dX10_init_125 rfl (by decide) (Nat.le_of_ble_eq_true rfl) (Nat.le_of_ble_eq_true rfl) ?_
  refine r_putf 130 rfl (k := 32) [.ref 38, .int 0, .int 0, .int 0, .int 0, .int 0, .int 0, .ref 39, .ref 40, .ref 41, .int 0, .ref 42, .ref 43, .ref 44, .ref 45, .int 0, .ref 46, .ref 47, .int 0, .int 0, .ref 48, .ref 49, .int 0, .int 0, .int 0, .int 0, .int 0, .int 0, .int 0, .ref 50, .ref 51, .ref 52, .ref 53, .long 0] dX10_init_127 (pf_X10_55_10 rfl rfl) rfl (Nat.le_of_ble_eq_true rfl) rfl (fun _ _ => ⟨rfl, rfl⟩) ?_
  refine r_aload_n 131 rfl 0 dX10_init_130 rfl rfl ?_
  refine r_iconst 132 rfl (-1) dX10_init_131 rfl ?_
  refine r_putf 135 rfl (k := 23) [.ref 38, .int 0, .int 0, .int 0, .int 0, .int 0, .int 0, .ref 39, .ref 40, .ref 41, .int 0, .ref 42, .ref 43, .ref 44, .ref 45, .int 0, .ref 46, .ref 47, .int 0, .int 0, .ref 48, .ref 49, .int 0, .int (-1), .int 0, .int 0, .int 0, .int 0, .int 0, .ref 50, .ref 51, .ref 52, .ref 53, .long 0] dX10_init_132 (pf_X10_58_10 rfl) rfl (Nat.le_of_ble_eq_true rfl) rfl (fun _ _ => ⟨rfl, rfl⟩) ?_
  refine r_return rfl dX10_init_135 (Nat.le_of_ble_eq_true rfl) (Nat.le_of_ble_eq_true rfl) ?_
  exact k

set_option maxHeartbeats 4000000 in
set_option maxRecDepth 20000 in
theorem c_i10w {Q : am_P} {h : Nat → am_E} {L : Nat} {xs : Nat → Int32} (hT : ∀ x, x ≤ 36 → h x = wd (z0 L xs) m0 x) (k : ∀ T : Nat → am_E, (∀ x, x ≤ 53 → T x = wd (z0 L xs) m0 x) → Q none T 53) : AW mX10_init Q 0 (am_ent (am_l mX10_init) [.ref 37]) [] (va_up h 37 (.inr (.inr (10, [.null, .int 0, .int 0, .int 0, .int 0, .int 0, .int 0, .null, .null, .null, .int 0, .null, .null, .null, .null, .int 0, .null, .null, .int 0, .int 0, .null, .null, .int 0, .int 0, .int 0, .int 0, .int 0, .int 0, .int 0, .null, .null, .null, .null, .long 0])))) 37 0 0 := by
  refine c_i10 (k _ ?_)
  intro x hx
  by_cases h36 : x ≤ 36
  · refine Eq.trans ?_ (hT x h36)
    repeat rw [va_up_ne _ _ (by omega)]
  · match x, hx, h36 with
    | 37, _, _ => rfl
    | 38, _, _ => rfl
    | 39, _, _ => rfl
    | 40, _, _ => rfl
    | 41, _, _ => rfl
    | 42, _, _ => rfl
    | 43, _, _ => rfl
    | 44, _, _ => rfl
    | 45, _, _ => rfl
    | 46, _, _ => rfl
    | 47, _, _ => rfl
    | 48, _, _ => rfl
    | 49, _, _ => rfl
    | 50, _, _ => rfl
    | 51, _, _ => rfl
    | 52, _, _ => rfl
    | 53, _, _ => rfl
    | x + 54, h, _ => omega

theorem IV_0 (L : Nat) (xs : Nat → Int32) (g : Nat → am_E) : IV 0 ((L, xs), fun _ => none, g, 0) m0 53 (fun _ _ => 0) (fun _ _ => 0) := by
  refine ⟨⟨fun j _ => ⟨rfl, Nat.zero_le 2⟩, rfl, by decide, fun h => absurd h (Nat.lt_irrefl 0), rfl, by decide, fun s hs => absurd hs (Nat.not_lt_zero s), fun s hs => absurd hs (Nat.not_lt_zero s), rfl, by decide, rfl, by decide, rfl, by decide⟩, ⟨fun j _ => ⟨rfl, Nat.zero_le 2⟩, rfl, by decide, fun h => absurd h (Nat.lt_irrefl 0), rfl, by decide, fun s hs => absurd hs (Nat.not_lt_zero s), rfl, by decide, rfl, by decide, rfl, by decide⟩, ⟨Nat.le_refl 53, fun s q h => by cases h⟩, ⟨rfl, rfl, by decide, fun j hj => absurd hj (Nat.not_lt_zero j)⟩, rfl, ⟨⟨fun j _ => rfl, fun j _ => rfl, by decide, fun j hj => absurd hj (Nat.not_lt_zero j)⟩, rfl, rfl, fun j _ => Or.inl rfl⟩, ⟨⟨rfl, rfl, Nat.le_refl 0⟩, ⟨rfl, rfl, by decide⟩, ⟨rfl, rfl, by decide⟩, Nat.le_refl 0, fun s hs => absurd hs (Nat.not_lt_zero s), by decide⟩, Or.inl ⟨rfl, Or.inl rfl⟩⟩
