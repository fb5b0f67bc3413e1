/-! digests -/
def zh (z : am_Z) (x : Int64) : am_Z := (z.1, z.2.1, z.2.2.1, x)
theorem wc_zh (f : Nat → Int32) (z : am_Z) (x : Int64) : ∀ k, k ≤ 53 → k ≠ 37 → wc k f (zh z x) = wc k f z
  | 37, _, h => absurd rfl h
  | 0, _, _ => rfl
  | 1, _, _ => rfl
  | 2, _, _ => rfl
  | 3, _, _ => rfl
  | 4, _, _ => rfl
  | 5, _, _ => rfl
  | 6, _, _ => rfl
  | 7, _, _ => rfl
  | 8, _, _ => rfl
  | 9, _, _ => rfl
  | 10, _, _ => rfl
  | 11, _, _ => rfl
  | 12, _, _ => rfl
  | 13, _, _ => rfl
  | 14, _, _ => rfl
  | 15, _, _ => rfl
  | 16, _, _ => rfl
  | 17, _, _ => rfl
  | 18, _, _ => rfl
  | 19, _, _ => rfl
  | 20, _, _ => rfl
  | 21, _, _ => rfl
  | 22, _, _ => rfl
  | 23, _, _ => rfl
  | 24, _, _ => rfl
  | 25, _, _ => rfl
  | 26, _, _ => rfl
  | 27, _, _ => rfl
  | 28, _, _ => rfl
  | 29, _, _ => rfl
  | 30, _, _ => rfl
  | 31, _, _ => rfl
  | 32, _, _ => rfl
  | 33, _, _ => rfl
  | 34, _, _ => rfl
  | 35, _, _ => rfl
  | 36, _, _ => rfl
  | 38, _, _ => rfl
  | 39, _, _ => rfl
  | 40, _, _ => rfl
  | 41, _, _ => rfl
  | 42, _, _ => rfl
  | 43, _, _ => rfl
  | 44, _, _ => rfl
  | 45, _, _ => rfl
  | 46, _, _ => rfl
  | 47, _, _ => rfl
  | 48, _, _ => rfl
  | 49, _, _ => rfl
  | 50, _, _ => rfl
  | 51, _, _ => rfl
  | 52, _, _ => rfl
  | 53, _, _ => rfl
  | k + 54, h, _ => by omega
theorem wd_zh {z : am_Z} {m : Nat → Nat → Int32} {x : Int64} : va_up (wd z m) 37 (wc 37 (m 37) (zh z x)) = wd (zh z x) m := by
  funext k
  by_cases hk : k = 37
  · subst hk
    rw [va_up_self]
    rfl
  · rw [va_up_ne _ _ hk]
    unfold wd
    by_cases h0 : k = 0
    · rw [if_pos h0, if_pos h0]; rfl
    · rw [if_neg h0, if_neg h0]
      by_cases h53 : k ≤ 53
      · rw [if_pos h53, if_pos h53, wc_zh _ _ _ k h53 hk]
      · rw [if_neg h53, if_neg h53]; rfl
theorem w_puth {M : am_M} {Q : am_P} {pc : Nat} {lv : List (Option Value)} {st : List Value} {z : am_Z} {m : Nat → Nat → Int32} {n cu su : Nat} (pc' : Nat) (hp : pc + 3 = pc') {idx : Nat} {x : Int64} (hd : decode (am_c M) pc = .ok (.putfield idx, 3)) (hg : am_pf M idx 10 33 .long) (kk : AW M Q pc' lv st (wd (zh z x) m) n cu su) : AW M Q pc lv (.long x :: .ref 37 :: st) (wd z m) n cu su := by
  refine r_putf pc' hp _ hd hg (a := 37) (k := 33) rfl (Nat.le_of_ble_eq_true rfl) rfl (fun _ _ => ⟨rfl, rfl⟩) ?_
  rw [← wd_zh] at kk
  exact kk
def dg (f : Nat → Int32) (h : Int64) : Nat → Int64
  | 0 => h
  | k + 1 => 31 * dg f h k + (f k).toInt64
def dgC (D : Nat → Nat → Nat) (ppl : Nat → Int32) (h : Int64) : Nat → Int64
  | 0 => h
  | c + 1 => dg (fun p => nI (rv D c p)) (dg (fun w => TC D (ppl c) c w) (dgC D ppl h c) 5) 3
def dgS (D : Nat → Nat → Nat) (h : Int64) : Nat → Int64
  | 0 => h
  | s + 1 => dg (fun w => nI (TS D s w)) (dgS D h s) 8
def dg1 (D : Nat → Nat → Nat) (ppl : Nat → Int32) : Int64 := if D 7 0 = 0 then 811 else dgC D ppl 811 8
def dgT (D : Nat → Nat → Nat) (ppl pg t : Nat → Int32) : Int64 := dg (TA D t) (dg pg (31 * dgS D (dg1 D ppl) (D 7 1) + (nI (bd_n (WH D) 16)).toInt64) (D 8 0)) 16
theorem dg_congr {f g : Nat → Int32} {h : Int64} : ∀ k, (∀ j, j < k → f j = g j) → dg f h k = dg g h k
  | 0, _ => rfl
  | k + 1, e => by
    show 31 * dg f h k + (f k).toInt64 = 31 * dg g h k + (g k).toInt64
    rw [dg_congr k (fun j hj => e j (by omega)), e k (by omega)]
theorem dgC_congr {D : Nat → Nat → Nat} {p q : Nat → Int32} {h : Int64} : ∀ k, (∀ j, j < k → p j = q j) → dgC D p h k = dgC D q h k
  | 0, _ => rfl
  | k + 1, e => by
    show dg (fun x => nI (rv D k x)) (dg (fun w => TC D (p k) k w) (dgC D p h k) 5) 3 = dg (fun x => nI (rv D k x)) (dg (fun w => TC D (q k) k w) (dgC D q h k) 5) 3
    rw [dgC_congr k (fun j hj => e j (by omega)), e k (by omega)]
theorem bd_0 {D : Nat → Nat → Nat} (h0 : D 7 1 = 0) : bd_n (WH D) 16 = 0 := by
  have hw : ∀ c, WH D c = -1 := fun c => by show st_wh (AM D) (D 2) (D 7 1) c = -1; rw [h0]; rfl
  have hp : ∀ c w, bd_p (WH D) c w = false := fun c w => by unfold bd_p; cases sp_to c w with | none => rfl | some t => simp [hw]
  have : ∀ j, bd_n (WH D) j = 0 := fun j => by induction j with | zero => rfl | succ j ih => unfold bd_n; rw [ih, hp]; rfl
  exact this 16
theorem IV_dg {i : Nat} {z : am_Z} {m m' : Nat → Nat → Int32} {n : Nat} {D K : Nat → Nat → Nat} (hI : IV i z m n D K) (h42 : ∀ j, j < 42 → m' 42 j = m 42 j) (hag : ag [42, 43, 44, 45, 47] m m') : IV i z m' n D K :=
  IV_ag2 hI (ag_w hag (by decide)) (fun j _ => by rw [hag 37 (by decide)]) (fun j hj => h42 j (by have := hI.1.2.2.2.2.2.1; omega))
theorem IV_zh {i : Nat} {z : am_Z} {m : Nat → Nat → Int32} {n : Nat} {D K : Nat → Nat → Nat} {x : Int64} (hI : IV i z m n D K) : IV i (zh z x) m n D K := hI

set_option maxHeartbeats 400000 in
set_option maxRecDepth 20000 in
theorem c_mix {Q : am_P} {h : Nat → am_E} {n : Nat} {a b : Int64} (k : Q (some (.long (31 * a + b))) h n) : AW mX9_mix Q 0 (am_ent (am_l mX9_mix) [.long a, .long b]) [] (h) n 0 0 := by
  show AW _ _ 0 [some (.long a), none, some (.long b), none] [] _ _ 0 0
  refine r_ldc2 3 rfl 31 dX9_mix_0 (cn_X9_271 rfl) ?_
  refine r_lload_n 4 rfl 0 dX9_mix_3 rfl rfl ?_
  refine r_lmul 5 rfl dX9_mix_4 ?_
  refine r_lload_n 6 rfl 2 dX9_mix_5 rfl rfl ?_
  refine r_ladd 7 rfl dX9_mix_6 ?_
  refine r_lreturn rfl dX9_mix_7 (Nat.le_of_ble_eq_true rfl) (Nat.le_of_ble_eq_true rfl) ?_
  exact k

set_option maxHeartbeats 400000 in
set_option maxRecDepth 20000 in
theorem c_say {Q : am_P} {z : am_Z} {m : Nat → Nat → Int32} {n : Nat} {v : Int64} (k : Q none (wd (zh z (31 * z.2.2.2 + v)) m) n) : AW mX10_say Q 0 (am_ent (am_l mX10_say) [.ref 37, .long v]) [] (wd z m) n 0 0 := by
  show AW _ _ 0 [some (.ref 37), some (.long v), none] [] _ _ 0 0
  refine r_aload_n 1 rfl 0 dX10_say_0 rfl rfl ?_
  refine r_ldc2 4 rfl 31 dX10_say_1 (cn_X10_246 rfl) ?_
  refine r_aload_n 5 rfl 0 dX10_say_4 rfl rfl ?_
  refine r_getf (v := .long z.2.2.2) (k := 33) 8 rfl dX10_say_5 (gf_X10_248_10 rfl) rfl rfl ?_
  refine r_lmul 9 rfl dX10_say_8 ?_
  refine r_lload_n 10 rfl 1 dX10_say_9 rfl rfl ?_
  refine r_ladd 11 rfl dX10_say_10 ?_
  refine w_puth 14 rfl dX10_say_11 (pf_X10_248_10 rfl) ?_
  refine r_return rfl dX10_say_14 (Nat.le_of_ble_eq_true rfl) (Nat.le_of_ble_eq_true rfl) ?_
  exact k

set_option maxHeartbeats 400000 in
set_option maxRecDepth 20000 in
theorem lp_dc1 {Q : am_P} {z : am_Z} {m : Nat → Nat → Int32} {n : Nat} {D : Nat → Nat → Nat} (hC : C9 z m D) (hA : AIR m D) (hh : ∀ j, j < 8 → m 34 j = WH D j ∧ m 35 j = nI (ru (hW D j (WH D j)) 24)) {c : Nat} (hc : c < 8) {b x : Int64} (kx : AW mX9_digestCells Q 41 [some (.ref 1), some (.long b), none, some (.long (dg (fun w => TC D (m 10 c) c w) x 5)), none, some (.int (nI c)), none] [] (wd z m) n 0 0) : ∀ (d w : Nat), w + d = 5 → AW mX9_digestCells Q 15 [some (.ref 1), some (.long b), none, some (.long (dg (fun w => TC D (m 10 c) c w) x w)), none, some (.int (nI c)), some (.int (nI w))] [] (wd z m) n 0 0 := by
  intro d
  induction d with
  | zero =>
    intro w hw
    obtain rfl : w = 5 := by omega
    refine r_iload 17 rfl dX9_digestCells_15 rfl ?_
    refine r_iconst 18 rfl 4 dX9_digestCells_17 rfl ?_
    refine r_icmp_gt 21 41 rfl dX9_digestCells_18 rfl (fun _ => ?_) (fun q__ => absurd ((nI_ltI (a := 4) (b := 5) (by omega) (by omega)).mpr (by omega)) q__)
    refine AW.drop 6 [some (.ref 1), some (.long b), none, some (.long (dg (fun w => TC D (m 10 c) c w) x 5)), none, some (.int (nI c)), none] rfl ?_
    exact kx
  | succ d ih =>
    intro w hw
    refine r_iload 17 rfl dX9_digestCells_15 rfl ?_
    refine r_iconst 18 rfl 4 dX9_digestCells_17 rfl ?_
    refine r_icmp_gt 21 41 rfl dX9_digestCells_18 rfl (fun q__ => absurd q__ (fun q__ => absurd ((nI_ltI (a := 4) (b := w) (by omega) (by omega)).mp q__) (by omega))) (fun _ => ?_)
    refine r_lload_n 22 rfl 3 dX9_digestCells_21 rfl rfl ?_
    refine r_aload_n 23 rfl 0 dX9_digestCells_22 rfl rfl ?_
    refine r_iload 25 rfl dX9_digestCells_23 rfl ?_
    refine r_iload 27 rfl dX9_digestCells_25 rfl ?_
    refine q_V 30 0 0 rfl [.int (nI c), .int (nI w)] rfl dX9_digestCells_27 cl_X9_digestCells__X9_tellOfCell (lk_X9_106 rfl) im_X9_tellOfCell (ci := 9) rfl sl_X9__X9_tellOfCell rfl (Nat.le_of_ble_eq_true rfl) (fun _ _ => Nat.le_of_ble_eq_true rfl) rfl rfl (Nat.le_of_ble_eq_true rfl) (Nat.le_of_ble_eq_true rfl) ?_
    refine c_toc hC hA hc (by omega) (k_i ?_)
    refine r_i2l 31 rfl dX9_digestCells_30 ?_
    refine q_S 34 0 0 rfl [.long (dg (fun w => TC D (m 10 c) c w) x w), .long ((TC D (m 10 c) c w).toInt64)] rfl dX9_digestCells_31 cl_X9_digestCells__X9_mix (lk_X9_264 rfl) st_X9_mix (Nat.le_of_ble_eq_true rfl) (fun _ _ => Nat.le_of_ble_eq_true rfl) rfl rfl (Nat.le_of_ble_eq_true rfl) (Nat.le_of_ble_eq_true rfl) ?_
    refine c_mix (k_l ?_)
    refine r_lstore_n 35 rfl 3 [some (.ref 1), some (.long b), none, some (.long (31 * (dg (fun w => TC D (m 10 c) c w) x w) + ((TC D (m 10 c) c w).toInt64))), none, some (.int (nI c)), some (.int (nI w))] dX9_digestCells_34 rfl (by decide) rfl ?_
    refine r_iinc 38 rfl (nI (w + 1)) [some (.ref 1), some (.long b), none, some (.long (31 * (dg (fun w => TC D (m 10 c) c w) x w) + ((TC D (m 10 c) c w).toInt64))), none, some (.int (nI c)), some (.int (nI (w + 1)))] dX9_digestCells_35 rfl (nI_1 _) (by decide) rfl ?_
    refine r_goto 15 dX9_digestCells_38 rfl ?_
    exact ih (w + 1) (by omega)

set_option maxHeartbeats 400000 in
set_option maxRecDepth 20000 in
theorem lp_dc2 {Q : am_P} {z : am_Z} {m : Nat → Nat → Int32} {n : Nat} {D : Nat → Nat → Nat} (hh : ∀ j, j < 8 → m 34 j = WH D j ∧ m 35 j = nI (ru (hW D j (WH D j)) 24)) {c : Nat} (hc : c < 8) {b x : Int64} (kx : AW mX9_digestCells Q 70 [some (.ref 1), some (.long b), none, some (.long (dg (fun p => nI (rv D c p)) x 3)), none, some (.int (nI c)), none] [] (wd z m) n 0 0) : ∀ (d p : Nat), p + d = 3 → AW mX9_digestCells Q 44 [some (.ref 1), some (.long b), none, some (.long (dg (fun p => nI (rv D c p)) x p)), none, some (.int (nI c)), some (.int (nI p))] [] (wd z m) n 0 0 := by
  intro d
  induction d with
  | zero =>
    intro p hp
    obtain rfl : p = 3 := by omega
    refine r_iload 46 rfl dX9_digestCells_44 rfl ?_
    refine r_iconst 47 rfl 3 dX9_digestCells_46 rfl ?_
    refine r_icmp_ge 50 70 rfl dX9_digestCells_47 rfl (fun _ => ?_) (fun q__ => absurd ((nI_leI (a := 3) (b := 3) (by omega) (by omega)).mpr (by omega)) q__)
    refine AW.drop 6 [some (.ref 1), some (.long b), none, some (.long (dg (fun p => nI (rv D c p)) x 3)), none, some (.int (nI c)), none] rfl ?_
    exact kx
  | succ d ih =>
    intro p hp
    refine r_iload 46 rfl dX9_digestCells_44 rfl ?_
    refine r_iconst 47 rfl 3 dX9_digestCells_46 rfl ?_
    refine r_icmp_ge 50 70 rfl dX9_digestCells_47 rfl (fun q__ => absurd q__ (fun q__ => absurd ((nI_leI (a := 3) (b := p) (by omega) (by omega)).mp q__) (by omega))) (fun _ => ?_)
    refine r_lload_n 51 rfl 3 dX9_digestCells_50 rfl rfl ?_
    refine r_aload_n 52 rfl 0 dX9_digestCells_51 rfl rfl ?_
    refine r_iload 54 rfl dX9_digestCells_52 rfl ?_
    refine r_iload 56 rfl dX9_digestCells_54 rfl ?_
    refine q_V 59 0 0 rfl [.int (nI c), .int (nI p)] rfl dX9_digestCells_56 cl_X9_digestCells__X9_heldBy (lk_X9_216 rfl) im_X9_heldBy (ci := 9) rfl sl_X9__X9_heldBy rfl (Nat.le_of_ble_eq_true rfl) (fun _ _ => Nat.le_of_ble_eq_true rfl) rfl rfl (Nat.le_of_ble_eq_true rfl) (Nat.le_of_ble_eq_true rfl) ?_
    refine c_heldBy hh hc (by omega) (k_i ?_)
    refine r_i2l 60 rfl dX9_digestCells_59 ?_
    refine q_S 63 0 0 rfl [.long (dg (fun p => nI (rv D c p)) x p), .long ((nI (rv D c p)).toInt64)] rfl dX9_digestCells_60 cl_X9_digestCells__X9_mix (lk_X9_264 rfl) st_X9_mix (Nat.le_of_ble_eq_true rfl) (fun _ _ => Nat.le_of_ble_eq_true rfl) rfl rfl (Nat.le_of_ble_eq_true rfl) (Nat.le_of_ble_eq_true rfl) ?_
    refine c_mix (k_l ?_)
    refine r_lstore_n 64 rfl 3 [some (.ref 1), some (.long b), none, some (.long (31 * (dg (fun p => nI (rv D c p)) x p) + ((nI (rv D c p)).toInt64))), none, some (.int (nI c)), some (.int (nI p))] dX9_digestCells_63 rfl (by decide) rfl ?_
    refine r_iinc 67 rfl (nI (p + 1)) [some (.ref 1), some (.long b), none, some (.long (31 * (dg (fun p => nI (rv D c p)) x p) + ((nI (rv D c p)).toInt64))), none, some (.int (nI c)), some (.int (nI (p + 1)))] dX9_digestCells_64 rfl (nI_1 _) (by decide) rfl ?_
    refine r_goto 44 dX9_digestCells_67 rfl ?_
    exact ih (p + 1) (by omega)

set_option maxHeartbeats 400000 in
set_option maxRecDepth 20000 in
theorem lp_dc3 {Q : am_P} {z : am_Z} {m : Nat → Nat → Int32} {n : Nat} {D : Nat → Nat → Nat} (hC : C9 z m D) (hA : AIR m D) (hh : ∀ j, j < 8 → m 34 j = WH D j ∧ m 35 j = nI (ru (hW D j (WH D j)) 24)) {b : Int64} (k : Q (some (.long (dgC D (m 10) b 8))) (wd z m) n) : ∀ (d c : Nat), c + d = 8 → AW mX9_digestCells Q 5 [some (.ref 1), some (.long b), none, some (.long (dgC D (m 10) b c)), none, some (.int (nI c)), none] [] (wd z m) n 0 0 := by
  intro d
  induction d with
  | zero =>
    intro c hc
    obtain rfl : c = 8 := by omega
    refine r_iload 7 rfl dX9_digestCells_5 rfl ?_
    refine r_bipush 9 rfl 8 dX9_digestCells_7 (by decide) ?_
    refine r_icmp_ge 12 76 rfl dX9_digestCells_9 rfl (fun _ => ?_) (fun q__ => absurd ((nI_leI (a := 8) (b := 8) (by omega) (by omega)).mpr (by omega)) q__)
    refine r_lload_n 77 rfl 3 dX9_digestCells_76 rfl rfl ?_
    refine r_lreturn rfl dX9_digestCells_77 (Nat.le_of_ble_eq_true rfl) (Nat.le_of_ble_eq_true rfl) ?_
    exact k
  | succ d ih =>
    intro c hc
    refine r_iload 7 rfl dX9_digestCells_5 rfl ?_
    refine r_bipush 9 rfl 8 dX9_digestCells_7 (by decide) ?_
    refine r_icmp_ge 12 76 rfl dX9_digestCells_9 rfl (fun q__ => absurd q__ (fun q__ => absurd ((nI_leI (a := 8) (b := c) (by omega) (by omega)).mp q__) (by omega))) (fun _ => ?_)
    refine r_iconst 13 rfl 0 dX9_digestCells_12 rfl ?_
    refine r_istore 15 rfl [some (.ref 1), some (.long b), none, some (.long (dgC D (m 10) b c)), none, some (.int (nI c)), some (.int 0)] dX9_digestCells_13 (by decide) rfl ?_
    refine lp_dc1 (x := dgC D (m 10) b c) hC hA hh (by omega) ?_ 5 0 rfl
    generalize hy : dg (fun w => TC D (m 10 c) c w) (dgC D (m 10) b c) 5 = y
    refine r_iconst 42 rfl 0 dX9_digestCells_41 rfl ?_
    refine r_istore 44 rfl [some (.ref 1), some (.long b), none, some (.long y), none, some (.int (nI c)), some (.int 0)] dX9_digestCells_42 (by decide) rfl ?_
    refine lp_dc2 (x := y) hh (by omega) ?_ 3 0 rfl
    refine r_iinc 73 rfl (nI (c + 1)) [some (.ref 1), some (.long b), none, some (.long (dg (fun p => nI (rv D c p)) y 3)), none, some (.int (nI (c + 1))), none] dX9_digestCells_70 rfl (nI_1 _) (by decide) rfl ?_
    refine r_goto 5 dX9_digestCells_73 rfl ?_
    rw [← hy]
    exact ih (c + 1) (by omega)

set_option maxHeartbeats 400000 in
set_option maxRecDepth 20000 in
theorem c_dcells {Q : am_P} {z : am_Z} {m : Nat → Nat → Int32} {n : Nat} {D : Nat → Nat → Nat} (hC : C9 z m D) (hA : AIR m D) (hh : ∀ j, j < 8 → m 34 j = WH D j ∧ m 35 j = nI (ru (hW D j (WH D j)) 24)) {b : Int64} (k : Q (some (.long (dgC D (m 10) b 8))) (wd z m) n) : AW mX9_digestCells Q 0 (am_ent (am_l mX9_digestCells) [.ref 1, .long b]) [] (wd z m) n 0 0 := by
  show AW _ _ 0 [some (.ref 1), some (.long b), none, none, none, none, none] [] _ _ 0 0
  refine r_lload_n 1 rfl 1 dX9_digestCells_0 rfl rfl ?_
  refine r_lstore_n 2 rfl 3 [some (.ref 1), some (.long b), none, some (.long b), none, none, none] dX9_digestCells_1 rfl (by decide) rfl ?_
  refine r_iconst 3 rfl 0 dX9_digestCells_2 rfl ?_
  refine r_istore 5 rfl [some (.ref 1), some (.long b), none, some (.long b), none, some (.int 0), none] dX9_digestCells_3 (by decide) rfl ?_
  exact lp_dc3 (b := b) hC hA hh k 8 0 rfl

set_option maxHeartbeats 400000 in
set_option maxRecDepth 20000 in
theorem lp_ds {Q : am_P} {z : am_Z} {m : Nat → Nat → Int32} {n : Nat} {D : Nat → Nat → Nat} (hC : C9 z m D){s : Nat} (hs : s < D 7 1) {q : Nat} (hzr : z.2.1 s = some q) {b : Int64} (k : Q (some (.long (dg (fun w => nI (TS D s w)) b 8))) (wd z m) n) : ∀ (d w : Nat), w + d = 8 → AW mX9_digestSource Q 20 [some (.ref 1), some (.long b), none, some (.int (nI s)), some (.ref q), some (.long (dg (fun w => nI (TS D s w)) b w)), none, some (.int (nI w))] [] (wd z m) n 0 0 := by
  intro d
  induction d with
  | zero =>
    intro w hw
    obtain rfl : w = 8 := by omega
    refine r_iload 22 rfl dX9_digestSource_20 rfl ?_
    refine r_bipush 24 rfl 7 dX9_digestSource_22 (by decide) ?_
    refine r_icmp_gt 27 50 rfl dX9_digestSource_24 rfl (fun _ => ?_) (fun q__ => absurd ((nI_ltI (a := 7) (b := 8) (by omega) (by omega)).mpr (by omega)) q__)
    refine r_lload 52 rfl dX9_digestSource_50 rfl ?_
    refine r_lreturn rfl dX9_digestSource_52 (Nat.le_of_ble_eq_true rfl) (Nat.le_of_ble_eq_true rfl) ?_
    exact k
  | succ d ih =>
    intro w hw
    refine r_iload 22 rfl dX9_digestSource_20 rfl ?_
    refine r_bipush 24 rfl 7 dX9_digestSource_22 (by decide) ?_
    refine r_icmp_gt 27 50 rfl dX9_digestSource_24 rfl (fun q__ => absurd q__ (fun q__ => absurd ((nI_ltI (a := 7) (b := w) (by omega) (by omega)).mp q__) (by omega))) (fun _ => ?_)
    refine r_lload 29 rfl dX9_digestSource_27 rfl ?_
    refine r_aload_n 30 rfl 0 dX9_digestSource_29 rfl rfl ?_
    refine r_aload 32 rfl dX9_digestSource_30 rfl ?_
    refine r_iload_n 33 rfl 3 dX9_digestSource_32 rfl rfl ?_
    refine r_iload 35 rfl dX9_digestSource_33 rfl ?_
    refine q_V 38 0 0 rfl [.ref q, .int (nI s), .int (nI w)] rfl dX9_digestSource_35 cl_X9_digestSource__X9_tellOfSource (lk_X9_132 rfl) im_X9_tellOfSource (ci := 9) rfl sl_X9__X9_tellOfSource rfl (Nat.le_of_ble_eq_true rfl) (fun _ _ => Nat.le_of_ble_eq_true rfl) rfl rfl (Nat.le_of_ble_eq_true rfl) (Nat.le_of_ble_eq_true rfl) ?_
    refine c_tos hC hs hzr (by omega) (k_i ?_)
    refine r_i2l 39 rfl dX9_digestSource_38 ?_
    refine q_S 42 0 0 rfl [.long (dg (fun w => nI (TS D s w)) b w), .long ((nI (TS D s w)).toInt64)] rfl dX9_digestSource_39 cl_X9_digestSource__X9_mix (lk_X9_264 rfl) st_X9_mix (Nat.le_of_ble_eq_true rfl) (fun _ _ => Nat.le_of_ble_eq_true rfl) rfl rfl (Nat.le_of_ble_eq_true rfl) (Nat.le_of_ble_eq_true rfl) ?_
    refine c_mix (k_l ?_)
    refine r_lstore 44 rfl [some (.ref 1), some (.long b), none, some (.int (nI s)), some (.ref q), some (.long (31 * (dg (fun w => nI (TS D s w)) b w) + ((nI (TS D s w)).toInt64))), none, some (.int (nI w))] dX9_digestSource_42 (by decide) rfl ?_
    refine r_iinc 47 rfl (nI (w + 1)) [some (.ref 1), some (.long b), none, some (.int (nI s)), some (.ref q), some (.long (31 * (dg (fun w => nI (TS D s w)) b w) + ((nI (TS D s w)).toInt64))), none, some (.int (nI (w + 1)))] dX9_digestSource_44 rfl (nI_1 _) (by decide) rfl ?_
    refine r_goto 20 dX9_digestSource_47 rfl ?_
    exact ih (w + 1) (by omega)

set_option maxHeartbeats 400000 in
set_option maxRecDepth 20000 in
theorem c_dsrc {Q : am_P} {z : am_Z} {m : Nat → Nat → Int32} {n : Nat} {D : Nat → Nat → Nat} (hC : C9 z m D){s : Nat} (hs : s < D 7 1) {b : Int64} (k : Q (some (.long (dg (fun w => nI (TS D s w)) b 8))) (wd z m) n) : AW mX9_digestSource Q 0 (am_ent (am_l mX9_digestSource) [.ref 1, .long b, .int (nI s)]) [] (wd z m) n 0 0 := by
  show AW _ _ 0 [some (.ref 1), some (.long b), none, some (.int (nI s)), none, none, none, none] [] _ _ 0 0
  obtain ⟨hg, hfd, hf3, hf0, hns, hn6, hsd, hsb, hwi, hw4, hfr, hr1, hhr, hh⟩ := id hC
  obtain ⟨q, hzr, hq, hz, hkd, hpa, hce, hsg1, hsg⟩ := hsd s hs
  obtain ⟨b1, b2, b3, b4⟩ := hsb s hs
  refine r_aload_n 1 rfl 0 dX9_digestSource_0 rfl rfl ?_
  refine r_iload_n 2 rfl 3 dX9_digestSource_1 rfl rfl ?_
  refine q_V 5 0 0 rfl [.int (nI s)] rfl dX9_digestSource_2 cl_X9_digestSource__X9_find (lk_X9_128 rfl) im_X9_find (ci := 9) rfl sl_X9__X9_find rfl (Nat.le_of_ble_eq_true rfl) (fun _ _ => Nat.le_of_ble_eq_true rfl) rfl rfl (Nat.le_of_ble_eq_true rfl) (Nat.le_of_ble_eq_true rfl) ?_
  refine c_find_t hns hn6 hs hzr (k_r ?_)
  refine r_astore 7 rfl [some (.ref 1), some (.long b), none, some (.int (nI s)), some (.ref q), none, none, none] dX9_digestSource_5 (by decide) rfl ?_
  refine r_aload 9 rfl dX9_digestSource_7 rfl ?_
  refine r_ifnonnull 14 dX9_digestSource_9 rfl ?_
  refine r_lload_n 15 rfl 1 dX9_digestSource_14 rfl rfl ?_
  refine r_lstore 17 rfl [some (.ref 1), some (.long b), none, some (.int (nI s)), some (.ref q), some (.long b), none, none] dX9_digestSource_15 (by decide) rfl ?_
  refine r_iconst 18 rfl 0 dX9_digestSource_17 rfl ?_
  refine r_istore 20 rfl [some (.ref 1), some (.long b), none, some (.int (nI s)), some (.ref q), some (.long b), none, some (.int 0)] dX9_digestSource_18 (by decide) rfl ?_
  exact lp_ds (b := b) hC hs hzr k 8 0 rfl

set_option maxHeartbeats 400000 in
set_option maxRecDepth 20000 in
theorem lp_dg1 {Q : am_P} {z : am_Z} {m : Nat → Nat → Int32} {n : Nat} {D : Nat → Nat → Nat} (hC : C9 z m D) {x : Int64} (kx : AW mX9_digest Q 61 [some (.ref 1), some (.long (dgS D x (D 7 1))), none, none] [] (wd z m) n 0 0) : ∀ (d s : Nat), s + d = D 7 1 → AW mX9_digest Q 37 [some (.ref 1), some (.long (dgS D x s)), none, some (.int (nI s))] [] (wd z m) n 0 0 := by
  obtain ⟨hg, hfd, hf3, hf0, hns, hn6, hsd, hsb, hwi, hw4, hfr, hr1, hhr, hh⟩ := id hC
  intro d
  induction d with
  | zero =>
    intro s hs
    obtain rfl : s = D 7 1 := by omega
    refine r_iload_n 38 rfl 3 dX9_digest_37 rfl rfl ?_
    refine r_aload_n 39 rfl 0 dX9_digest_38 rfl rfl ?_
    refine r_getf (v := .ref 7) (k := 3) 42 rfl dX9_digest_39 (gf_X9_32_9 rfl) rfl rfl ?_
    refine r_getf (v := .int ((m 7) 0)) (k := 0) 45 rfl dX9_digest_42 (gf_X9_119_5 rfl) rfl rfl ?_
    rw [show (m 7) 0 = nI (D 7 1) from hns]
    refine r_icmp_ge 48 61 rfl dX9_digest_45 rfl (fun _ => ?_) (fun q__ => absurd ((nI_leI (a := (D 7 1)) (b := (D 7 1)) (by omega) (by omega)).mpr (by omega)) q__)
    refine AW.drop 3 [some (.ref 1), some (.long (dgS D x (D 7 1))), none, none] rfl ?_
    exact kx
  | succ d ih =>
    intro s hs
    refine r_iload_n 38 rfl 3 dX9_digest_37 rfl rfl ?_
    refine r_aload_n 39 rfl 0 dX9_digest_38 rfl rfl ?_
    refine r_getf (v := .ref 7) (k := 3) 42 rfl dX9_digest_39 (gf_X9_32_9 rfl) rfl rfl ?_
    refine r_getf (v := .int ((m 7) 0)) (k := 0) 45 rfl dX9_digest_42 (gf_X9_119_5 rfl) rfl rfl ?_
    rw [show (m 7) 0 = nI (D 7 1) from hns]
    refine r_icmp_ge 48 61 rfl dX9_digest_45 rfl (fun q__ => absurd q__ (fun q__ => absurd ((nI_leI (a := (D 7 1)) (b := s) (by omega) (by omega)).mp q__) (by omega))) (fun _ => ?_)
    refine r_aload_n 49 rfl 0 dX9_digest_48 rfl rfl ?_
    refine r_lload_n 50 rfl 1 dX9_digest_49 rfl rfl ?_
    refine r_iload_n 51 rfl 3 dX9_digest_50 rfl rfl ?_
    refine q_V 54 0 0 rfl [.long (dgS D x s), .int (nI s)] rfl dX9_digest_51 cl_X9_digest__X9_digestSource (lk_X9_260 rfl) im_X9_digestSource (ci := 9) rfl sl_X9__X9_digestSource rfl (Nat.le_of_ble_eq_true rfl) (fun _ _ => Nat.le_of_ble_eq_true rfl) rfl rfl (Nat.le_of_ble_eq_true rfl) (Nat.le_of_ble_eq_true rfl) ?_
    refine c_dsrc hC (by omega) (k_l ?_)
    refine r_lstore_n 55 rfl 1 [some (.ref 1), some (.long (dg (fun w => nI (TS D s w)) (dgS D x s) 8)), none, some (.int (nI s))] dX9_digest_54 rfl (by decide) rfl ?_
    refine r_iinc 58 rfl (nI (s + 1)) [some (.ref 1), some (.long (dg (fun w => nI (TS D s w)) (dgS D x s) 8)), none, some (.int (nI (s + 1)))] dX9_digest_55 rfl (nI_1 _) (by decide) rfl ?_
    refine r_goto 37 dX9_digest_58 rfl ?_
    exact ih (s + 1) (by omega)

set_option maxHeartbeats 400000 in
set_option maxRecDepth 20000 in
theorem lp_dg2 {Q : am_P} {z : am_Z} {m : Nat → Nat → Int32} {n : Nat} {pm : Nat} (hpm : m 2 1 = nI pm) (hp14 : pm ≤ 14) {x : Int64} (kx : AW mX9_digest Q 108 [some (.ref 1), some (.long (dg (m 3) x pm)), none, none] [] (wd z m) n 0 0) : ∀ (d j : Nat), j + d = pm → AW mX9_digest Q 76 [some (.ref 1), some (.long (dg (m 3) x j)), none, some (.int (nI j))] [] (wd z m) n 0 0 := by
  intro d
  induction d with
  | zero =>
    intro j hj
    obtain rfl : j = pm := by omega
    refine r_iload_n 77 rfl 3 dX9_digest_76 rfl rfl ?_
    refine r_aload_n 78 rfl 0 dX9_digest_77 rfl rfl ?_
    refine r_getf (v := .ref 2) (k := 0) 81 rfl dX9_digest_78 (gf_X9_12_9 rfl) rfl rfl ?_
    refine r_getf (v := .int ((m 2) 1)) (k := 1) 84 rfl dX9_digest_81 (gf_X9_70_3 rfl) rfl rfl ?_
    rw [show (m 2) 1 = nI j from hpm]
    refine r_icmp_ge 87 108 rfl dX9_digest_84 rfl (fun _ => ?_) (fun q__ => absurd ((nI_leI (a := j) (b := j) (by omega) (by omega)).mpr (by omega)) q__)
    refine AW.drop 3 [some (.ref 1), some (.long (dg (m 3) x j)), none, none] rfl ?_
    exact kx
  | succ d ih =>
    intro j hj
    refine r_iload_n 77 rfl 3 dX9_digest_76 rfl rfl ?_
    refine r_aload_n 78 rfl 0 dX9_digest_77 rfl rfl ?_
    refine r_getf (v := .ref 2) (k := 0) 81 rfl dX9_digest_78 (gf_X9_12_9 rfl) rfl rfl ?_
    refine r_getf (v := .int ((m 2) 1)) (k := 1) 84 rfl dX9_digest_81 (gf_X9_70_3 rfl) rfl rfl ?_
    rw [show (m 2) 1 = nI pm from hpm]
    refine r_icmp_ge 87 108 rfl dX9_digest_84 rfl (fun q__ => absurd q__ (fun q__ => absurd ((nI_leI (a := pm) (b := j) (by omega) (by omega)).mp q__) (by omega))) (fun _ => ?_)
    refine r_lload_n 88 rfl 1 dX9_digest_87 rfl rfl ?_
    refine r_aload_n 89 rfl 0 dX9_digest_88 rfl rfl ?_
    refine r_getf (v := .ref 2) (k := 0) 92 rfl dX9_digest_89 (gf_X9_12_9 rfl) rfl rfl ?_
    refine r_getf (v := .ref 3) (k := 0) 95 rfl dX9_digest_92 (gf_X9_268_3 rfl) rfl rfl ?_
    refine r_iload_n 96 rfl 3 dX9_digest_95 rfl rfl ?_
    refine r_iald (f := m 3) 97 rfl j dX9_digest_96 rfl rfl (by omega) (by decide) ?_
    refine r_i2l 98 rfl dX9_digest_97 ?_
    refine q_S 101 0 0 rfl [.long (dg (m 3) x j), .long (((m 3) j).toInt64)] rfl dX9_digest_98 cl_X9_digest__X9_mix (lk_X9_264 rfl) st_X9_mix (Nat.le_of_ble_eq_true rfl) (fun _ _ => Nat.le_of_ble_eq_true rfl) rfl rfl (Nat.le_of_ble_eq_true rfl) (Nat.le_of_ble_eq_true rfl) ?_
    refine c_mix (k_l ?_)
    refine r_lstore_n 102 rfl 1 [some (.ref 1), some (.long (31 * (dg (m 3) x j) + ((m 3 j).toInt64))), none, some (.int (nI j))] dX9_digest_101 rfl (by decide) rfl ?_
    refine r_iinc 105 rfl (nI (j + 1)) [some (.ref 1), some (.long (31 * (dg (m 3) x j) + ((m 3 j).toInt64))), none, some (.int (nI (j + 1)))] dX9_digest_102 rfl (nI_1 _) (by decide) rfl ?_
    refine r_goto 76 dX9_digest_105 rfl ?_
    exact ih (j + 1) (by omega)

set_option maxHeartbeats 400000 in
set_option maxRecDepth 20000 in
theorem lp_dg3 {Q : am_P} {z : am_Z} {m : Nat → Nat → Int32} {n : Nat} {i : Nat} {D K : Nat → Nat → Nat} (hI : IV i z m n D K) (hA : AIR m D) {x : Int64} (k : Q (some (.long (dg (TA D (m 11)) x 16))) (wd z m) n) : ∀ (d w : Nat), w + d = 16 → AW mX9_digest Q 110 [some (.ref 1), some (.long (dg (TA D (m 11)) x w)), none, some (.int (nI w))] [] (wd z m) n 0 0 := by
  intro d
  induction d with
  | zero =>
    intro w hw
    obtain rfl : w = 16 := by omega
    refine r_iload_n 111 rfl 3 dX9_digest_110 rfl rfl ?_
    refine r_bipush 113 rfl 16 dX9_digest_111 (by decide) ?_
    refine r_icmp_ge 116 133 rfl dX9_digest_113 rfl (fun _ => ?_) (fun q__ => absurd ((nI_leI (a := 16) (b := 16) (by omega) (by omega)).mpr (by omega)) q__)
    refine r_lload_n 134 rfl 1 dX9_digest_133 rfl rfl ?_
    refine r_lreturn rfl dX9_digest_134 (Nat.le_of_ble_eq_true rfl) (Nat.le_of_ble_eq_true rfl) ?_
    exact k
  | succ d ih =>
    intro w hw
    refine r_iload_n 111 rfl 3 dX9_digest_110 rfl rfl ?_
    refine r_bipush 113 rfl 16 dX9_digest_111 (by decide) ?_
    refine r_icmp_ge 116 133 rfl dX9_digest_113 rfl (fun q__ => absurd q__ (fun q__ => absurd ((nI_leI (a := 16) (b := w) (by omega) (by omega)).mp q__) (by omega))) (fun _ => ?_)
    refine r_lload_n 117 rfl 1 dX9_digest_116 rfl rfl ?_
    refine r_aload_n 118 rfl 0 dX9_digest_117 rfl rfl ?_
    refine r_iload_n 119 rfl 3 dX9_digest_118 rfl rfl ?_
    refine q_V 122 0 0 rfl [.int (nI w)] rfl dX9_digest_119 cl_X9_digest__X9_tellOfAll (lk_X9_251 rfl) im_X9_tellOfAll (ci := 9) rfl sl_X9__X9_tellOfAll rfl (Nat.le_of_ble_eq_true rfl) (fun _ _ => Nat.le_of_ble_eq_true rfl) rfl rfl (Nat.le_of_ble_eq_true rfl) (Nat.le_of_ble_eq_true rfl) ?_
    refine c_toa hI hA (by omega) (k_i ?_)
    refine r_i2l 123 rfl dX9_digest_122 ?_
    refine q_S 126 0 0 rfl [.long (dg (TA D (m 11)) x w), .long ((TA D (m 11) w).toInt64)] rfl dX9_digest_123 cl_X9_digest__X9_mix (lk_X9_264 rfl) st_X9_mix (Nat.le_of_ble_eq_true rfl) (fun _ _ => Nat.le_of_ble_eq_true rfl) rfl rfl (Nat.le_of_ble_eq_true rfl) (Nat.le_of_ble_eq_true rfl) ?_
    refine c_mix (k_l ?_)
    refine r_lstore_n 127 rfl 1 [some (.ref 1), some (.long (31 * (dg (TA D (m 11)) x w) + ((TA D (m 11) w).toInt64))), none, some (.int (nI w))] dX9_digest_126 rfl (by decide) rfl ?_
    refine r_iinc 130 rfl (nI (w + 1)) [some (.ref 1), some (.long (31 * (dg (TA D (m 11)) x w) + ((TA D (m 11) w).toInt64))), none, some (.int (nI (w + 1)))] dX9_digest_127 rfl (nI_1 _) (by decide) rfl ?_
    refine r_goto 110 dX9_digest_130 rfl ?_
    exact ih (w + 1) (by omega)

set_option maxHeartbeats 400000 in
set_option maxRecDepth 20000 in
theorem lp_dg4 {Q : am_P} {z : am_Z} {m : Nat → Nat → Int32} {n : Nat} {i : Nat} {D K : Nat → Nat → Nat} (hI : IV i z m n D K) (hA : AIR m D) {x : Int64} (k : Q (some (.long (dg (TA D (m 11)) (dg (m 3) (31 * dgS D x (D 7 1) + (nI (bd_n (WH D) 16)).toInt64) (D 8 0)) 16))) (wd z m) n) : AW mX9_digest Q 35 [some (.ref 1), some (.long x), none, none] [] (wd z m) n 0 0 := by
  refine r_iconst 36 rfl 0 dX9_digest_35 rfl ?_
  refine r_istore_n 37 rfl 3 [some (.ref 1), some (.long x), none, some (.int 0)] dX9_digest_36 rfl (by decide) rfl ?_
  refine lp_dg1 (x := x) hI.1 ?_ (D 7 1) 0 (by omega)
  refine r_lload_n 62 rfl 1 dX9_digest_61 rfl rfl ?_
  refine r_aload_n 63 rfl 0 dX9_digest_62 rfl rfl ?_
  refine r_getf (v := .ref 28) (k := 6) 66 rfl dX9_digest_63 (gf_X9_45_9 rfl) rfl rfl ?_
  refine q_V 69 0 0 rfl [] rfl dX9_digest_66 cl_X9_digest__X0_countBorders (lk_X9_110 rfl) im_X0_countBorders (ci := 0) rfl sl_X0__X0_countBorders rfl (Nat.le_of_ble_eq_true rfl) (fun _ _ => Nat.le_of_ble_eq_true rfl) rfl rfl (Nat.le_of_ble_eq_true rfl) (Nat.le_of_ble_eq_true rfl) ?_
  refine c_countBorders (fun j hj => (hA j hj).2.2) (k_i ?_)
  refine r_i2l 70 rfl dX9_digest_69 ?_
  refine q_S 73 0 0 rfl [.long (dgS D x (D 7 1)), .long ((nI (bd_n (WH D) 16)).toInt64)] rfl dX9_digest_70 cl_X9_digest__X9_mix (lk_X9_264 rfl) st_X9_mix (Nat.le_of_ble_eq_true rfl) (fun _ _ => Nat.le_of_ble_eq_true rfl) rfl rfl (Nat.le_of_ble_eq_true rfl) (Nat.le_of_ble_eq_true rfl) ?_
  refine c_mix (k_l ?_)
  refine r_lstore_n 74 rfl 1 [some (.ref 1), some (.long (31 * (dgS D x (D 7 1)) + ((nI (bd_n (WH D) 16)).toInt64))), none, none] dX9_digest_73 rfl (by decide) rfl ?_
  refine r_iconst 75 rfl 0 dX9_digest_74 rfl ?_
  refine r_istore_n 76 rfl 3 [some (.ref 1), some (.long (31 * (dgS D x (D 7 1)) + ((nI (bd_n (WH D) 16)).toInt64))), none, some (.int 0)] dX9_digest_75 rfl (by decide) rfl ?_
  refine lp_dg2 (x := 31 * dgS D x (D 7 1) + (nI (bd_n (WH D) 16)).toInt64) hI.2.2.2.1.1 hI.2.2.2.1.2.2.1 ?_ (D 8 0) 0 (by omega)
  refine r_iconst 109 rfl 0 dX9_digest_108 rfl ?_
  refine r_istore_n 110 rfl 3 [some (.ref 1), some (.long (dg (m 3) (31 * (dgS D x (D 7 1)) + (nI (bd_n (WH D) 16)).toInt64) (D 8 0))), none, some (.int 0)] dX9_digest_109 rfl (by decide) rfl ?_
  exact lp_dg3 (x := dg (m 3) (31 * dgS D x (D 7 1) + (nI (bd_n (WH D) 16)).toInt64) (D 8 0)) hI hA k 16 0 rfl

set_option maxHeartbeats 400000 in
set_option maxRecDepth 20000 in
theorem c9_digest_t {Q : am_P} {z : am_Z} {m : Nat → Nat → Int32} {n : Nat} {i : Nat} {D K : Nat → Nat → Nat} (hI : IV i z m n D K) (hf : ¬ D 7 0 = 0) (hB : BD D 100) (k : ∀ m', ag [21, 22, 23, 24, 25, 26, 27, 29, 30, 31, 32, 34, 35] m m' → Q (some (.long (dgT D (m 10) (m 3) (m 11)))) (wd z m') n) : AW mX9_digest Q 0 (am_ent (am_l mX9_digest) [.ref 1]) [] (wd z m) n 0 0 := by
  show AW _ _ 0 [some (.ref 1), none, none, none] [] _ _ 0 0
  obtain ⟨h9, h10, hnz, hpg, hop, hnw, hct, him⟩ := id hI
  obtain ⟨hg, hfd, hf3, hf0, hns, hn6, hsd, hsb, hwi, hw4, hfr, hr1, hhr, hh⟩ := id h9
  refine r_ldc2 3 rfl 811 dX9_digest_0 (cn_X9_254 rfl) ?_
  refine r_lstore_n 4 rfl 1 [some (.ref 1), some (.long 811), none, none] dX9_digest_3 rfl (by decide) rfl ?_
  refine r_aload_n 5 rfl 0 dX9_digest_4 rfl rfl ?_
  refine r_getf (v := .ref 4) (k := 1) 8 rfl dX9_digest_5 (gf_X9_19_9 rfl) rfl rfl ?_
  refine q_V 11 0 0 rfl [] rfl dX9_digest_8 cl_X9_digest__X7_isThere (lk_X9_171 rfl) im_X7_isThere (ci := 7) rfl sl_X7__X7_isThere rfl (Nat.le_of_ble_eq_true rfl) (fun _ _ => Nat.le_of_ble_eq_true rfl) rfl rfl (Nat.le_of_ble_eq_true rfl) (Nat.le_of_ble_eq_true rfl) ?_
  refine c_isThere_t hfd (by omega) hf3 (k_i ?_)
  refine r_if_eq 14 31 rfl dX9_digest_11 rfl (fun q__ => absurd q__ (by decide)) (fun _ => ?_)
  refine r_aload_n 15 rfl 0 dX9_digest_14 rfl rfl ?_
  refine q_V 18 0 0 rfl [] rfl dX9_digest_15 cl_X9_digest__X9_watchHolders (lk_X9_213 rfl) im_X9_watchHolders (ci := 9) rfl sl_X9__X9_watchHolders rfl (Nat.le_of_ble_eq_true rfl) (fun _ _ => Nat.le_of_ble_eq_true rfl) rfl rfl (Nat.le_of_ble_eq_true rfl) (Nat.le_of_ble_eq_true rfl) ?_
  refine c_watch h9 hnw.2.2.2 hB (fun m1 h34 hag1 => (k_v ?_))
  refine r_aload_n 19 rfl 0 dX9_digest_18 rfl rfl ?_
  refine q_V 22 0 0 rfl [] rfl dX9_digest_19 cl_X9_digest__X9_settleNow (lk_X9_103 rfl) im_X9_settleNow (ci := 9) rfl sl_X9__X9_settleNow rfl (Nat.le_of_ble_eq_true rfl) (fun _ _ => Nat.le_of_ble_eq_true rfl) rfl rfl (Nat.le_of_ble_eq_true rfl) (Nat.le_of_ble_eq_true rfl) ?_
  refine c_settleNow (C9_ag h9 hag1 (by decide)) (fun m2 hA hag2 => (k_v ?_))
  have hagx : ag [21, 22, 23, 24, 25, 26, 27, 29, 30, 31, 32, 34, 35] m m2 := ag_t hag1 hag2 (by decide)
  have e3 : m2 3 = m 3 := hagx 3 (by decide)
  have e10 : m2 10 = m 10 := hagx 10 (by decide)
  have e11 : m2 11 = m 11 := hagx 11 (by decide)
  refine r_aload_n 23 rfl 0 dX9_digest_22 rfl rfl ?_
  refine r_lload_n 24 rfl 1 dX9_digest_23 rfl rfl ?_
  refine q_V 27 0 0 rfl [.long 811] rfl dX9_digest_24 cl_X9_digest__X9_digestCells (lk_X9_256 rfl) im_X9_digestCells (ci := 9) rfl sl_X9__X9_digestCells rfl (Nat.le_of_ble_eq_true rfl) (fun _ _ => Nat.le_of_ble_eq_true rfl) rfl rfl (Nat.le_of_ble_eq_true rfl) (Nat.le_of_ble_eq_true rfl) ?_
  refine c_dcells (C9_ag h9 hagx (by decide)) hA (fun j hj => by rw [hag2 34 (by decide), hag2 35 (by decide)]; exact h34 j hj) (k_l ?_)
  refine r_lstore_n 28 rfl 1 [some (.ref 1), some (.long (dgC D (m2 10) 811 8)), none, none] dX9_digest_27 rfl (by decide) rfl ?_
  refine r_goto 35 dX9_digest_28 rfl ?_
  have k := k m2 hagx
  unfold dgT dg1 at k
  rw [if_neg hf] at k
  rw [e10]
  rw [← e3, ← e11] at k
  exact lp_dg4 (x := dgC D (m 10) 811 8) (IV_ag hI (ag_w hagx (by decide))) hA k

set_option maxHeartbeats 400000 in
set_option maxRecDepth 20000 in
theorem c9_digest_f {Q : am_P} {z : am_Z} {m : Nat → Nat → Int32} {n : Nat} {i : Nat} {D K : Nat → Nat → Nat} (hI : IV i z m n D K) (hf : D 7 0 = 0) (k : ∀ m', ag [21, 22, 23, 24, 25, 26, 27, 29, 30, 31, 32, 34, 35] m m' → Q (some (.long (dgT D (m 10) (m 3) (m 11)))) (wd z m') n) : AW mX9_digest Q 0 (am_ent (am_l mX9_digest) [.ref 1]) [] (wd z m) n 0 0 := by
  show AW _ _ 0 [some (.ref 1), none, none, none] [] _ _ 0 0
  obtain ⟨h9, h10, hnz, hpg, hop, hnw, hct, him⟩ := id hI
  obtain ⟨hg, hfd, hf3, hf0, hns, hn6, hsd, hsb, hwi, hw4, hfr, hr1, hhr, hh⟩ := id h9
  refine r_ldc2 3 rfl 811 dX9_digest_0 (cn_X9_254 rfl) ?_
  refine r_lstore_n 4 rfl 1 [some (.ref 1), some (.long 811), none, none] dX9_digest_3 rfl (by decide) rfl ?_
  refine r_aload_n 5 rfl 0 dX9_digest_4 rfl rfl ?_
  refine r_getf (v := .ref 4) (k := 1) 8 rfl dX9_digest_5 (gf_X9_19_9 rfl) rfl rfl ?_
  refine q_V 11 0 0 rfl [] rfl dX9_digest_8 cl_X9_digest__X7_isThere (lk_X9_171 rfl) im_X7_isThere (ci := 7) rfl sl_X7__X7_isThere rfl (Nat.le_of_ble_eq_true rfl) (fun _ _ => Nat.le_of_ble_eq_true rfl) rfl rfl (Nat.le_of_ble_eq_true rfl) (Nat.le_of_ble_eq_true rfl) ?_
  refine c_isThere_f (by rw [hfd, hf]) (k_i ?_)
  refine r_if_eq 14 31 rfl dX9_digest_11 rfl (fun _ => ?_) (fun q__ => absurd (by decide) q__)
  refine r_aload_n 32 rfl 0 dX9_digest_31 rfl rfl ?_
  refine q_V 35 0 0 rfl [] rfl dX9_digest_32 cl_X9_digest__X9_settleNow (lk_X9_103 rfl) im_X9_settleNow (ci := 9) rfl sl_X9__X9_settleNow rfl (Nat.le_of_ble_eq_true rfl) (fun _ _ => Nat.le_of_ble_eq_true rfl) rfl rfl (Nat.le_of_ble_eq_true rfl) (Nat.le_of_ble_eq_true rfl) ?_
  refine c_settleNow h9 (fun m2 hA hag2 => (k_v ?_))
  have hagx : ag [21, 22, 23, 24, 25, 26, 27, 29, 30, 31, 32, 34, 35] m m2 := ag_w hag2 (by decide)
  have e3 : m2 3 = m 3 := hagx 3 (by decide)
  have e10 : m2 10 = m 10 := hagx 10 (by decide)
  have e11 : m2 11 = m 11 := hagx 11 (by decide)
  have k := k m2 hagx
  unfold dgT dg1 at k
  rw [if_pos hf] at k
  rw [← e3, ← e11] at k
  exact lp_dg4 (IV_ag hI (ag_w hagx (by decide))) hA k

theorem c_sayx {Q : am_P} {z : am_Z} {m : Nat → Nat → Int32} {n : Nat} {a v : Int64} (k : Q none (wd (zh z (31 * a + v)) m) n) : AW mX10_say Q 0 (am_ent (am_l mX10_say) [.ref 37, .long v]) [] (wd (zh z a) m) n 0 0 := c_say (z := zh z a) k
