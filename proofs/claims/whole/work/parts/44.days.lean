set_option maxHeartbeats 4000000 in
set_option maxRecDepth 20000 in
theorem c_nextSeed {Q : am_P} {h : Nat → am_E} {n : Nat} {s : Nat} (hs : s < 2 ^ 31) (k : Q (some (.int (nI (nS s)))) h n) : AW mX9_nextSeed Q 0 (am_ent (am_l mX9_nextSeed) [.int (nI s)]) [] (h) n 0 0 := by
  show AW _ _ 0 [some (.int (nI s))] [] _ _ 0 0
  refine r_ldc2 3 rfl 1103515245 dX9_nextSeed_0 (cn_X9_273 rfl) ?_
  refine r_iload_n 4 rfl 0 dX9_nextSeed_3 rfl rfl ?_
  refine r_i2l 5 rfl dX9_nextSeed_4 ?_
  refine r_lmul 6 rfl dX9_nextSeed_5 ?_
  refine r_ldc2 9 rfl 12345 dX9_nextSeed_6 (cn_X9_275 rfl) ?_
  refine r_ladd 10 rfl dX9_nextSeed_9 ?_
  refine r_ldc2 13 rfl 2147483648 dX9_nextSeed_10 (cn_X9_277 rfl) ?_
  refine r_lrem 14 rfl dX9_nextSeed_13 (by decide) ?_
  refine r_l2i 15 rfl dX9_nextSeed_14 ?_
  rw [show (((1103515245 * ((nI s).toInt64)) + 12345) - ((1103515245 * ((nI s).toInt64)) + 12345) / 2147483648 * 2147483648).toInt32 = nI (nS s) from dl_rem s hs]
  refine r_ireturn rfl dX9_nextSeed_15 (Nat.le_of_ble_eq_true rfl) (Nat.le_of_ble_eq_true rfl) ?_
  exact k

set_option maxHeartbeats 4000000 in
set_option maxRecDepth 20000 in
theorem c_draw9_5 {Q : am_P} {h : Nat → am_E} {n : Nat} {s : Nat} (hs : s < 2 ^ 31) (k : Q (some (.int (nI (s / 65536 % 5)))) h n) : AW mX9_draw Q 0 (am_ent (am_l mX9_draw) [.int (nI s), .int 5]) [] (h) n 0 0 := by
  show AW _ _ 0 [some (.int (nI s)), some (.int 5)] [] _ _ 0 0
  refine r_iload_n 1 rfl 1 dX9_draw_0 rfl rfl ?_
  refine r_if_le 4 14 rfl dX9_draw_1 rfl (fun q__ => absurd q__ (by decide)) (fun _ => ?_)
  refine r_iload_n 5 rfl 0 dX9_draw_4 rfl rfl ?_
  refine r_ldc_w 8 rfl 65536 dX9_draw_5 (cn_X9_279 rfl) ?_
  refine r_idiv 9 rfl dX9_draw_8 (by decide) ?_
  rw [show (nI s) / 65536 = nI (s / 65536) from pk_div (a := s) (d := 65536) (by omega) (by decide) (by decide)]
  refine r_iload_n 10 rfl 1 dX9_draw_9 rfl rfl ?_
  refine r_irem 11 rfl dX9_draw_10 (by decide) ?_
  rw [show (nI (s / 65536)) - (nI (s / 65536)) / 5 * 5 = nI ((s / 65536) % 5) from pk_rem (a := (s / 65536)) (d := 5) (by omega) (by decide) (by decide)]
  refine r_goto 15 dX9_draw_11 rfl ?_
  refine r_ireturn rfl dX9_draw_15 (Nat.le_of_ble_eq_true rfl) (Nat.le_of_ble_eq_true rfl) ?_
  exact k

set_option maxHeartbeats 4000000 in
set_option maxRecDepth 20000 in
theorem c_draw10_5 {Q : am_P} {z : am_Z} {m : Nat → Nat → Int32} {n : Nat} {s : Nat} (hs : s < 2 ^ 31) (h22 : m 37 22 = nI s) (k : Q (some (.int (nI (nS s / 65536 % 5)))) (wd z (va_up m 37 (upd (m 37) 22 (nI (nS s))))) n) : AW mX10_draw Q 0 (am_ent (am_l mX10_draw) [.ref 37, .int 5]) [] (wd z m) n 0 0 := by
  show AW _ _ 0 [some (.ref 37), some (.int 5)] [] _ _ 0 0
  have hn := nS_lt s
  refine r_aload_n 1 rfl 0 dX10_draw_0 rfl rfl ?_
  refine r_ldc2 4 rfl 1103515245 dX10_draw_1 (cn_X10_207 rfl) ?_
  refine r_aload_n 5 rfl 0 dX10_draw_4 rfl rfl ?_
  refine r_getf (v := .int ((m 37) 22)) (k := 22) 8 rfl dX10_draw_5 (gf_X10_209_10 rfl) rfl rfl ?_
  rw [show (m 37) 22 = nI s from h22]
  refine r_i2l 9 rfl dX10_draw_8 ?_
  refine r_lmul 10 rfl dX10_draw_9 ?_
  refine r_ldc2 13 rfl 12345 dX10_draw_10 (cn_X10_212 rfl) ?_
  refine r_ladd 14 rfl dX10_draw_13 ?_
  refine r_ldc2 17 rfl 2147483647 dX10_draw_14 (cn_X10_214 rfl) ?_
  refine r_land 18 rfl dX10_draw_17 ?_
  refine r_l2i 19 rfl dX10_draw_18 ?_
  rw [show (((1103515245 * ((nI s).toInt64)) + 12345) &&& 2147483647).toInt32 = nI (nS s) from dl_and s hs]
  refine w_putf 22 rfl (k := 22) (va_up m 37 (upd (m 37) 22 (nI (nS s)))) dX10_draw_19 (pf_X10_209_10 rfl) (by decide) (by decide) rfl (Nat.le_of_ble_eq_true rfl) rfl ⟨rfl, rfl⟩ rfl ?_
  refine r_aload_n 23 rfl 0 dX10_draw_22 rfl rfl ?_
  refine r_getf (v := .int (nI (nS s))) (k := 22) 26 rfl dX10_draw_23 (gf_X10_209_10 rfl) rfl rfl ?_
  refine r_ldc 28 rfl 65536 dX10_draw_26 (cn_X10_216 rfl) ?_
  refine r_idiv 29 rfl dX10_draw_28 (by decide) ?_
  rw [show (nI (nS s)) / 65536 = nI ((nS s) / 65536) from pk_div (a := (nS s)) (d := 65536) (by omega) (by decide) (by decide)]
  refine r_iload_n 30 rfl 1 dX10_draw_29 rfl rfl ?_
  refine r_irem 31 rfl dX10_draw_30 (by decide) ?_
  rw [show (nI ((nS s) / 65536)) - (nI ((nS s) / 65536)) / 5 * 5 = nI (((nS s) / 65536) % 5) from pk_rem (a := ((nS s) / 65536)) (d := 5) (by omega) (by decide) (by decide)]
  refine r_ireturn rfl dX10_draw_31 (Nat.le_of_ble_eq_true rfl) (Nat.le_of_ble_eq_true rfl) ?_
  exact k

set_option maxHeartbeats 4000000 in
set_option maxRecDepth 20000 in
theorem c_draw9_6 {Q : am_P} {h : Nat → am_E} {n : Nat} {s : Nat} (hs : s < 2 ^ 31) (k : Q (some (.int (nI (s / 65536 % 6)))) h n) : AW mX9_draw Q 0 (am_ent (am_l mX9_draw) [.int (nI s), .int 6]) [] (h) n 0 0 := by
  show AW _ _ 0 [some (.int (nI s)), some (.int 6)] [] _ _ 0 0
  refine r_iload_n 1 rfl 1 dX9_draw_0 rfl rfl ?_
  refine r_if_le 4 14 rfl dX9_draw_1 rfl (fun q__ => absurd q__ (by decide)) (fun _ => ?_)
  refine r_iload_n 5 rfl 0 dX9_draw_4 rfl rfl ?_
  refine r_ldc_w 8 rfl 65536 dX9_draw_5 (cn_X9_279 rfl) ?_
  refine r_idiv 9 rfl dX9_draw_8 (by decide) ?_
  rw [show (nI s) / 65536 = nI (s / 65536) from pk_div (a := s) (d := 65536) (by omega) (by decide) (by decide)]
  refine r_iload_n 10 rfl 1 dX9_draw_9 rfl rfl ?_
  refine r_irem 11 rfl dX9_draw_10 (by decide) ?_
  rw [show (nI (s / 65536)) - (nI (s / 65536)) / 6 * 6 = nI ((s / 65536) % 6) from pk_rem (a := (s / 65536)) (d := 6) (by omega) (by decide) (by decide)]
  refine r_goto 15 dX9_draw_11 rfl ?_
  refine r_ireturn rfl dX9_draw_15 (Nat.le_of_ble_eq_true rfl) (Nat.le_of_ble_eq_true rfl) ?_
  exact k

set_option maxHeartbeats 4000000 in
set_option maxRecDepth 20000 in
theorem c_draw10_6 {Q : am_P} {z : am_Z} {m : Nat → Nat → Int32} {n : Nat} {s : Nat} (hs : s < 2 ^ 31) (h22 : m 37 22 = nI s) (k : Q (some (.int (nI (nS s / 65536 % 6)))) (wd z (va_up m 37 (upd (m 37) 22 (nI (nS s))))) n) : AW mX10_draw Q 0 (am_ent (am_l mX10_draw) [.ref 37, .int 6]) [] (wd z m) n 0 0 := by
  show AW _ _ 0 [some (.ref 37), some (.int 6)] [] _ _ 0 0
  have hn := nS_lt s
  refine r_aload_n 1 rfl 0 dX10_draw_0 rfl rfl ?_
  refine r_ldc2 4 rfl 1103515245 dX10_draw_1 (cn_X10_207 rfl) ?_
  refine r_aload_n 5 rfl 0 dX10_draw_4 rfl rfl ?_
  refine r_getf (v := .int ((m 37) 22)) (k := 22) 8 rfl dX10_draw_5 (gf_X10_209_10 rfl) rfl rfl ?_
  rw [show (m 37) 22 = nI s from h22]
  refine r_i2l 9 rfl dX10_draw_8 ?_
  refine r_lmul 10 rfl dX10_draw_9 ?_
  refine r_ldc2 13 rfl 12345 dX10_draw_10 (cn_X10_212 rfl) ?_
  refine r_ladd 14 rfl dX10_draw_13 ?_
  refine r_ldc2 17 rfl 2147483647 dX10_draw_14 (cn_X10_214 rfl) ?_
  refine r_land 18 rfl dX10_draw_17 ?_
  refine r_l2i 19 rfl dX10_draw_18 ?_
  rw [show (((1103515245 * ((nI s).toInt64)) + 12345) &&& 2147483647).toInt32 = nI (nS s) from dl_and s hs]
  refine w_putf 22 rfl (k := 22) (va_up m 37 (upd (m 37) 22 (nI (nS s)))) dX10_draw_19 (pf_X10_209_10 rfl) (by decide) (by decide) rfl (Nat.le_of_ble_eq_true rfl) rfl ⟨rfl, rfl⟩ rfl ?_
  refine r_aload_n 23 rfl 0 dX10_draw_22 rfl rfl ?_
  refine r_getf (v := .int (nI (nS s))) (k := 22) 26 rfl dX10_draw_23 (gf_X10_209_10 rfl) rfl rfl ?_
  refine r_ldc 28 rfl 65536 dX10_draw_26 (cn_X10_216 rfl) ?_
  refine r_idiv 29 rfl dX10_draw_28 (by decide) ?_
  rw [show (nI (nS s)) / 65536 = nI ((nS s) / 65536) from pk_div (a := (nS s)) (d := 65536) (by omega) (by decide) (by decide)]
  refine r_iload_n 30 rfl 1 dX10_draw_29 rfl rfl ?_
  refine r_irem 31 rfl dX10_draw_30 (by decide) ?_
  rw [show (nI ((nS s) / 65536)) - (nI ((nS s) / 65536)) / 6 * 6 = nI (((nS s) / 65536) % 6) from pk_rem (a := ((nS s) / 65536)) (d := 6) (by omega) (by decide) (by decide)]
  refine r_ireturn rfl dX10_draw_31 (Nat.le_of_ble_eq_true rfl) (Nat.le_of_ble_eq_true rfl) ?_
  exact k

set_option maxHeartbeats 4000000 in
set_option maxRecDepth 20000 in
theorem lp_days9 {Q : am_P} {z : am_Z} {m : Nat → Nat → Int32} {n : Nat} {D : Nat → Nat → Nat} {s H w : Nat} (hs : s < 2 ^ 31) (hH : H ≤ 60) (hw : w ≤ 1) (hB : BD D 100) (k : ∀ m', ag [21, 23, 29, 30, 31, 32] m m' → Q (some (.int (if w = 0 then nI (dB D s H) else nI (dS s H)))) (wd z m') n) : ∀ (d h : Nat), h + d = H → ∀ m', CA z m' (dD D s h) → ag [21, 23, 29, 30, 31, 32] m m' → AW mX9_days Q 58 [some (.ref 1), some (.int (nI H)), none, some (.int (nI w)), some (.int (nI (dS s h))), some (.int (nI (dB D s h))), some (.int (nI h))] [] (wd z m') n 0 0 := by
  intro d
  induction d with
  | zero =>
    intro h hh m' hC hag
    obtain rfl : h = H := by omega
    have kr := k m' hag
    refine r_iload 60 rfl dX9_days_58 rfl ?_
    refine r_iload_n 61 rfl 1 dX9_days_60 rfl rfl ?_
    refine r_icmp_ge 64 158 rfl dX9_days_61 rfl (fun _ => ?_) (fun q__ => absurd ((nI_leI (a := h) (b := h) (by omega) (by omega)).mpr (by omega)) q__)
    refine r_iload_n 159 rfl 3 dX9_days_158 rfl rfl ?_
    refine r_if_ne 162 167 rfl dX9_days_159 rfl (fun c159 => ?_) (fun c159 => ?_)
    · replace c159 : ¬ w = 0 := fun q__ => c159 ((nI_eq (a := w) (b := 0) (by omega) (by omega)).mpr q__)
      refine r_iload 169 rfl dX9_days_167 rfl ?_
      refine r_ireturn rfl dX9_days_169 (Nat.le_of_ble_eq_true rfl) (Nat.le_of_ble_eq_true rfl) ?_
      rw [if_neg (by omega)] at kr
      exact kr
    · replace c159 : w = 0 := (nI_eq (a := w) (b := 0) (by omega) (by omega)).mp c159
      refine r_iload 164 rfl dX9_days_162 rfl ?_
      refine r_goto 169 dX9_days_164 rfl ?_
      refine r_ireturn rfl dX9_days_169 (Nat.le_of_ble_eq_true rfl) (Nat.le_of_ble_eq_true rfl) ?_
      rw [if_pos (by omega)] at kr
      exact kr
  | succ d ih =>
    intro h hh m' hC hag
    have hb := dB_le D s h
    have hs1 := dS_lt hs h
    have hs2 := nS_lt (dS s h)
    have hs3 := nS_lt (nS (dS s h))
    have hbn := bd_n_le (WH (dW (dD D s h) (dS s h))) 16
    obtain ⟨hg, hfd, hf3, hf0, hns, hn6, hsd, hsb, hwi, hw4, hfr, hr1, hhr, hh3⟩ := id hC
    have hBh : BD (dD D s h) 1 := BD_d h 1 (BD_le hB (by omega))
    refine r_iload 60 rfl dX9_days_58 rfl ?_
    refine r_iload_n 61 rfl 1 dX9_days_60 rfl rfl ?_
    refine r_icmp_ge 64 158 rfl dX9_days_61 rfl (fun q__ => absurd q__ (fun q__ => absurd ((nI_leI (a := H) (b := h) (by omega) (by omega)).mp q__) (by omega))) (fun _ => ?_)
    refine r_iload 66 rfl dX9_days_64 rfl ?_
    refine q_S 69 0 0 rfl [.int (nI (dS s h))] rfl dX9_days_66 cl_X9_days__X9_nextSeed (lk_X9_241 rfl) st_X9_nextSeed (Nat.le_of_ble_eq_true rfl) (fun _ _ => Nat.le_of_ble_eq_true rfl) rfl rfl (Nat.le_of_ble_eq_true rfl) (Nat.le_of_ble_eq_true rfl) ?_
    refine c_nextSeed (s := dS s h) (by omega) (k_i ?_)
    refine r_istore 71 rfl [some (.ref 1), some (.int (nI H)), none, some (.int (nI w)), some (.int (nI (nS (dS s h)))), some (.int (nI (dB D s h))), some (.int (nI h))] dX9_days_69 (by decide) rfl ?_
    refine r_aload_n 72 rfl 0 dX9_days_71 rfl rfl ?_
    refine r_getf (v := .ref 21) (k := 5) 75 rfl dX9_days_72 (gf_X9_39_9 rfl) rfl rfl ?_
    refine r_iload 77 rfl dX9_days_75 rfl ?_
    refine r_iconst 78 rfl 5 dX9_days_77 rfl ?_
    refine q_S 81 0 0 rfl [.int (nI (nS (dS s h))), .int 5] rfl dX9_days_78 cl_X9_days__X9_draw (lk_X9_244 rfl) st_X9_draw (Nat.le_of_ble_eq_true rfl) (fun _ _ => Nat.le_of_ble_eq_true rfl) rfl rfl (Nat.le_of_ble_eq_true rfl) (Nat.le_of_ble_eq_true rfl) ?_
    refine c_draw9_5 (s := nS (dS s h)) (by omega) (k_i ?_)
    refine w_putf 84 rfl (k := 3) (va_up m' 21 (upd (m' 21) 3 (nI (nS (dS s h) / 65536 % 5)))) dX9_days_81 (pf_X9_153_5 rfl) (by decide) (by decide) rfl (Nat.le_of_ble_eq_true rfl) rfl ⟨rfl, rfl⟩ rfl ?_
    refine r_iload 86 rfl dX9_days_84 rfl ?_
    refine q_S 89 0 0 rfl [.int (nI (nS (dS s h)))] rfl dX9_days_86 cl_X9_days__X9_nextSeed (lk_X9_241 rfl) st_X9_nextSeed (Nat.le_of_ble_eq_true rfl) (fun _ _ => Nat.le_of_ble_eq_true rfl) rfl rfl (Nat.le_of_ble_eq_true rfl) (Nat.le_of_ble_eq_true rfl) ?_
    refine c_nextSeed (s := nS (dS s h)) (by omega) (k_i ?_)
    refine r_istore 91 rfl [some (.ref 1), some (.int (nI H)), none, some (.int (nI w)), some (.int (nI (nS (nS (dS s h))))), some (.int (nI (dB D s h))), some (.int (nI h))] dX9_days_89 (by decide) rfl ?_
    refine r_aload_n 92 rfl 0 dX9_days_91 rfl rfl ?_
    refine r_getf (v := .ref 21) (k := 5) 95 rfl dX9_days_92 (gf_X9_39_9 rfl) rfl rfl ?_
    refine r_iload 97 rfl dX9_days_95 rfl ?_
    refine r_bipush 99 rfl 6 dX9_days_97 (by decide) ?_
    refine q_S 102 0 0 rfl [.int (nI (nS (nS (dS s h)))), .int 6] rfl dX9_days_99 cl_X9_days__X9_draw (lk_X9_244 rfl) st_X9_draw (Nat.le_of_ble_eq_true rfl) (fun _ _ => Nat.le_of_ble_eq_true rfl) rfl rfl (Nat.le_of_ble_eq_true rfl) (Nat.le_of_ble_eq_true rfl) ?_
    refine c_draw9_6 (s := nS (nS (dS s h))) (by omega) (k_i ?_)
    refine r_if_ne 105 109 rfl dX9_days_102 rfl (fun c102 => ?_) (fun c102 => ?_)
    · replace c102 : ¬ (nS (nS (dS s h)) / 65536 % 6) = 0 := fun q__ => c102 ((nI_eq (a := (nS (nS (dS s h)) / 65536 % 6)) (b := 0) (by omega) (by omega)).mpr q__)
      refine r_iconst 110 rfl 0 dX9_days_109 rfl ?_
      refine w_putf 113 rfl (k := 4) (va_up (va_up m' 21 (upd (m' 21) 3 (nI (nS (dS s h) / 65536 % 5)))) 21 (upd (upd (m' 21) 3 (nI (nS (dS s h) / 65536 % 5))) 4 0)) dX9_days_110 (pf_X9_174_5 rfl) (by decide) (by decide) rfl (Nat.le_of_ble_eq_true rfl) rfl ⟨rfl, rfl⟩ rfl ?_
      refine r_aload_n 114 rfl 0 dX9_days_113 rfl rfl ?_
      refine r_getf (v := .ref 28) (k := 6) 117 rfl dX9_days_114 (gf_X9_45_9 rfl) rfl rfl ?_
      refine r_aload_n 118 rfl 0 dX9_days_117 rfl rfl ?_
      refine r_getf (v := .ref 4) (k := 1) 121 rfl dX9_days_118 (gf_X9_19_9 rfl) rfl rfl ?_
      refine r_aload_n 122 rfl 0 dX9_days_121 rfl rfl ?_
      refine r_getf (v := .ref 6) (k := 2) 125 rfl dX9_days_122 (gf_X9_25_9 rfl) rfl rfl ?_
      refine r_aload_n 126 rfl 0 dX9_days_125 rfl rfl ?_
      refine r_getf (v := .ref 21) (k := 5) 129 rfl dX9_days_126 (gf_X9_39_9 rfl) rfl rfl ?_
      refine r_iconst 130 rfl 0 dX9_days_129 rfl ?_
      have hCw : CA z (va_up (va_up m' 21 (upd (m' 21) 3 (nI (nS (dS s h) / 65536 % 5)))) 21 (upd (upd (m' 21) 3 (nI (nS (dS s h) / 65536 % 5))) 4 0)) (dW (dD D s h) (dS s h)) := ⟨hg, hfd, hf3, hf0, hns, hn6, hsd, hsb, rfl, (show nS (dS s h) / 65536 % 5 ≤ 4 by omega), (show (0 : Int32) = nI (if nS (nS (dS s h)) / 65536 % 6 = 0 then 1 else 0) by rw [if_neg c102]; rfl), (show (if nS (nS (dS s h)) / 65536 % 6 = 0 then 1 else 0) ≤ 1 by split <;> decide), hhr, hh3⟩
      refine q_V 133 0 0 rfl [.ref 4, .ref 6, .ref 21, .int 0] rfl dX9_days_130 cl_X9_days__X0_settle (lk_X9_247 rfl) im_X0_settle (ci := 0) rfl sl_X0__X0_settle rfl (Nat.le_of_ble_eq_true rfl) (fun _ _ => Nat.le_of_ble_eq_true rfl) rfl rfl (Nat.le_of_ble_eq_true rfl) (Nat.le_of_ble_eq_true rfl) ?_
      refine c_settleA hCw (fun m2 hA hag2 => (k_v ?_))
      have hC2 := CA_ag hCw hag2 (by decide)
      refine r_iload 135 rfl dX9_days_133 rfl ?_
      refine r_aload_n 136 rfl 0 dX9_days_135 rfl rfl ?_
      refine r_getf (v := .ref 28) (k := 6) 139 rfl dX9_days_136 (gf_X9_45_9 rfl) rfl rfl ?_
      refine q_V 142 0 0 rfl [] rfl dX9_days_139 cl_X9_days__X0_countBorders (lk_X9_110 rfl) im_X0_countBorders (ci := 0) rfl sl_X0__X0_countBorders rfl (Nat.le_of_ble_eq_true rfl) (fun _ _ => Nat.le_of_ble_eq_true rfl) rfl rfl (Nat.le_of_ble_eq_true rfl) (Nat.le_of_ble_eq_true rfl) ?_
      refine c_countBorders (fun j hj => (hA j hj).2.2) (k_i ?_)
      refine r_iadd 143 rfl dX9_days_142 ?_
      rw [show (nI (dB D s h)) + (nI (bd_n (WH (dW (dD D s h) (dS s h))) 16)) = nI ((dB D s h) + (bd_n (WH (dW (dD D s h) (dS s h))) 16)) from nI_add (dB D s h) (bd_n (WH (dW (dD D s h) (dS s h))) 16)]
      refine r_istore 145 rfl [some (.ref 1), some (.int (nI H)), none, some (.int (nI w)), some (.int (nI (nS (nS (dS s h))))), some (.int (nI ((dB D s h) + (bd_n (WH (dW (dD D s h) (dS s h))) 16)))), some (.int (nI h))] dX9_days_143 (by decide) rfl ?_
      refine r_aload_n 146 rfl 0 dX9_days_145 rfl rfl ?_
      refine r_getf (v := .ref 21) (k := 5) 149 rfl dX9_days_146 (gf_X9_39_9 rfl) rfl rfl ?_
      refine q_V 152 0 0 rfl [] rfl dX9_days_149 cl_X9_days__X5_endHour (lk_X9_189 rfl) im_X5_endHour (ci := 5) rfl sl_X5__X5_endHour rfl (Nat.le_of_ble_eq_true rfl) (fun _ _ => Nat.le_of_ble_eq_true rfl) rfl rfl (Nat.le_of_ble_eq_true rfl) (Nat.le_of_ble_eq_true rfl) ?_
      refine c_endHour_21 hC2 (BD_dW hBh) (fun m3 hC3 _ hag3 => (k_v ?_))
      refine r_iinc 155 rfl (nI (h + 1)) [some (.ref 1), some (.int (nI H)), none, some (.int (nI w)), some (.int (nI (nS (nS (dS s h))))), some (.int (nI ((dB D s h) + (bd_n (WH (dW (dD D s h) (dS s h))) 16)))), some (.int (nI (h + 1)))] dX9_days_152 rfl (nI_1 _) (by decide) rfl ?_
      refine r_goto 58 dX9_days_155 rfl ?_
      exact ih (h + 1) (by omega) m3 hC3 (ag_t (ag_t (ag_up (ag_up hag (by decide)) (by decide)) hag2 (by decide)) hag3 (by decide))
    · replace c102 : nS (nS (dS s h)) / 65536 % 6 = 0 := (nI_eq (a := (nS (nS (dS s h)) / 65536 % 6)) (b := 0) (by omega) (by omega)).mp c102
      refine r_iconst 106 rfl 1 dX9_days_105 rfl ?_
      refine r_goto 110 dX9_days_106 rfl ?_
      refine w_putf 113 rfl (k := 4) (va_up (va_up m' 21 (upd (m' 21) 3 (nI (nS (dS s h) / 65536 % 5)))) 21 (upd (upd (m' 21) 3 (nI (nS (dS s h) / 65536 % 5))) 4 1)) dX9_days_110 (pf_X9_174_5 rfl) (by decide) (by decide) rfl (Nat.le_of_ble_eq_true rfl) rfl ⟨rfl, rfl⟩ rfl ?_
      refine r_aload_n 114 rfl 0 dX9_days_113 rfl rfl ?_
      refine r_getf (v := .ref 28) (k := 6) 117 rfl dX9_days_114 (gf_X9_45_9 rfl) rfl rfl ?_
      refine r_aload_n 118 rfl 0 dX9_days_117 rfl rfl ?_
      refine r_getf (v := .ref 4) (k := 1) 121 rfl dX9_days_118 (gf_X9_19_9 rfl) rfl rfl ?_
      refine r_aload_n 122 rfl 0 dX9_days_121 rfl rfl ?_
      refine r_getf (v := .ref 6) (k := 2) 125 rfl dX9_days_122 (gf_X9_25_9 rfl) rfl rfl ?_
      refine r_aload_n 126 rfl 0 dX9_days_125 rfl rfl ?_
      refine r_getf (v := .ref 21) (k := 5) 129 rfl dX9_days_126 (gf_X9_39_9 rfl) rfl rfl ?_
      refine r_iconst 130 rfl 0 dX9_days_129 rfl ?_
      have hCw : CA z (va_up (va_up m' 21 (upd (m' 21) 3 (nI (nS (dS s h) / 65536 % 5)))) 21 (upd (upd (m' 21) 3 (nI (nS (dS s h) / 65536 % 5))) 4 1)) (dW (dD D s h) (dS s h)) := ⟨hg, hfd, hf3, hf0, hns, hn6, hsd, hsb, rfl, (show nS (dS s h) / 65536 % 5 ≤ 4 by omega), (show (1 : Int32) = nI (if nS (nS (dS s h)) / 65536 % 6 = 0 then 1 else 0) by rw [if_pos c102]; rfl), (show (if nS (nS (dS s h)) / 65536 % 6 = 0 then 1 else 0) ≤ 1 by split <;> decide), hhr, hh3⟩
      refine q_V 133 0 0 rfl [.ref 4, .ref 6, .ref 21, .int 0] rfl dX9_days_130 cl_X9_days__X0_settle (lk_X9_247 rfl) im_X0_settle (ci := 0) rfl sl_X0__X0_settle rfl (Nat.le_of_ble_eq_true rfl) (fun _ _ => Nat.le_of_ble_eq_true rfl) rfl rfl (Nat.le_of_ble_eq_true rfl) (Nat.le_of_ble_eq_true rfl) ?_
      refine c_settleA hCw (fun m2 hA hag2 => (k_v ?_))
      have hC2 := CA_ag hCw hag2 (by decide)
      refine r_iload 135 rfl dX9_days_133 rfl ?_
      refine r_aload_n 136 rfl 0 dX9_days_135 rfl rfl ?_
      refine r_getf (v := .ref 28) (k := 6) 139 rfl dX9_days_136 (gf_X9_45_9 rfl) rfl rfl ?_
      refine q_V 142 0 0 rfl [] rfl dX9_days_139 cl_X9_days__X0_countBorders (lk_X9_110 rfl) im_X0_countBorders (ci := 0) rfl sl_X0__X0_countBorders rfl (Nat.le_of_ble_eq_true rfl) (fun _ _ => Nat.le_of_ble_eq_true rfl) rfl rfl (Nat.le_of_ble_eq_true rfl) (Nat.le_of_ble_eq_true rfl) ?_
      refine c_countBorders (fun j hj => (hA j hj).2.2) (k_i ?_)
      refine r_iadd 143 rfl dX9_days_142 ?_
      rw [show (nI (dB D s h)) + (nI (bd_n (WH (dW (dD D s h) (dS s h))) 16)) = nI ((dB D s h) + (bd_n (WH (dW (dD D s h) (dS s h))) 16)) from nI_add (dB D s h) (bd_n (WH (dW (dD D s h) (dS s h))) 16)]
      refine r_istore 145 rfl [some (.ref 1), some (.int (nI H)), none, some (.int (nI w)), some (.int (nI (nS (nS (dS s h))))), some (.int (nI ((dB D s h) + (bd_n (WH (dW (dD D s h) (dS s h))) 16)))), some (.int (nI h))] dX9_days_143 (by decide) rfl ?_
      refine r_aload_n 146 rfl 0 dX9_days_145 rfl rfl ?_
      refine r_getf (v := .ref 21) (k := 5) 149 rfl dX9_days_146 (gf_X9_39_9 rfl) rfl rfl ?_
      refine q_V 152 0 0 rfl [] rfl dX9_days_149 cl_X9_days__X5_endHour (lk_X9_189 rfl) im_X5_endHour (ci := 5) rfl sl_X5__X5_endHour rfl (Nat.le_of_ble_eq_true rfl) (fun _ _ => Nat.le_of_ble_eq_true rfl) rfl rfl (Nat.le_of_ble_eq_true rfl) (Nat.le_of_ble_eq_true rfl) ?_
      refine c_endHour_21 hC2 (BD_dW hBh) (fun m3 hC3 _ hag3 => (k_v ?_))
      refine r_iinc 155 rfl (nI (h + 1)) [some (.ref 1), some (.int (nI H)), none, some (.int (nI w)), some (.int (nI (nS (nS (dS s h))))), some (.int (nI ((dB D s h) + (bd_n (WH (dW (dD D s h) (dS s h))) 16)))), some (.int (nI (h + 1)))] dX9_days_152 rfl (nI_1 _) (by decide) rfl ?_
      refine r_goto 58 dX9_days_155 rfl ?_
      exact ih (h + 1) (by omega) m3 hC3 (ag_t (ag_t (ag_up (ag_up hag (by decide)) (by decide)) hag2 (by decide)) hag3 (by decide))

set_option maxHeartbeats 4000000 in
set_option maxRecDepth 20000 in
theorem c9_days_o1 {Q : am_P} {z : am_Z} {m : Nat → Nat → Int32} {n : Nat} {x : Int32} (hx : x.toInt < 1 ∨ 60 < x.toInt) {y u : Int32} (k : Q (some (.int (-102))) (wd z m) n) : AW mX9_days Q 0 (am_ent (am_l mX9_days) [.ref 1, .int x, .int y, .int u]) [] (wd z m) n 0 0 := by
  show AW _ _ 0 [some (.ref 1), some (.int x), some (.int y), some (.int u), none, none, none] [] _ _ 0 0
  refine r_iload_n 1 rfl 1 dX9_days_0 rfl rfl ?_
  refine r_iconst 2 rfl 1 dX9_days_1 rfl ?_
  refine r_icmp_lt 5 22 rfl dX9_days_2 rfl (fun c2 => ?_) (fun c2 => ?_)
  · replace c2 : x.toInt < (1 : Int) := Int32.lt_iff_toInt_lt.mp c2
    refine r_bipush 24 rfl (-102) dX9_days_22 (by decide) ?_
    refine r_ireturn rfl dX9_days_24 (Nat.le_of_ble_eq_true rfl) (Nat.le_of_ble_eq_true rfl) ?_
    exact k
  · replace c2 : ¬ x.toInt < (1 : Int) := fun q__ => c2 (Int32.lt_iff_toInt_lt.mpr q__)
    refine r_iload_n 6 rfl 1 dX9_days_5 rfl rfl ?_
    refine r_bipush 8 rfl 60 dX9_days_6 (by decide) ?_
    refine r_icmp_gt 11 22 rfl dX9_days_8 rfl (fun c8 => ?_) (fun c8 => ?_)
    · replace c8 : (60 : Int) < x.toInt := Int32.lt_iff_toInt_lt.mp c8
      refine r_bipush 24 rfl (-102) dX9_days_22 (by decide) ?_
      refine r_ireturn rfl dX9_days_24 (Nat.le_of_ble_eq_true rfl) (Nat.le_of_ble_eq_true rfl) ?_
      exact k
    · replace c8 : ¬ (60 : Int) < x.toInt := fun q__ => c8 (Int32.lt_iff_toInt_lt.mpr q__)
      exfalso; omega

set_option maxHeartbeats 4000000 in
set_option maxRecDepth 20000 in
theorem c9_days_o2 {Q : am_P} {z : am_Z} {m : Nat → Nat → Int32} {n : Nat} {H : Nat} (hH0 : 1 ≤ H) (hH : H ≤ 60) {y : Int32} (hy : y.toInt < 0) {u : Int32} (k : Q (some (.int (-102))) (wd z m) n) : AW mX9_days Q 0 (am_ent (am_l mX9_days) [.ref 1, .int (nI H), .int y, .int u]) [] (wd z m) n 0 0 := by
  show AW _ _ 0 [some (.ref 1), some (.int (nI H)), some (.int y), some (.int u), none, none, none] [] _ _ 0 0
  refine r_iload_n 1 rfl 1 dX9_days_0 rfl rfl ?_
  refine r_iconst 2 rfl 1 dX9_days_1 rfl ?_
  refine r_icmp_lt 5 22 rfl dX9_days_2 rfl (fun q__ => absurd q__ (fun q__ => absurd ((nI_ltI (a := H) (b := 1) (by omega) (by omega)).mp q__) (by omega))) (fun _ => ?_)
  refine r_iload_n 6 rfl 1 dX9_days_5 rfl rfl ?_
  refine r_bipush 8 rfl 60 dX9_days_6 (by decide) ?_
  refine r_icmp_gt 11 22 rfl dX9_days_8 rfl (fun q__ => absurd q__ (fun q__ => absurd ((nI_ltI (a := 60) (b := H) (by omega) (by omega)).mp q__) (by omega))) (fun _ => ?_)
  refine r_iload_n 12 rfl 2 dX9_days_11 rfl rfl ?_
  refine r_if_lt 15 22 rfl dX9_days_12 rfl (fun _ => ?_) (fun q__ => absurd (Int32.lt_iff_toInt_lt.mpr (show y.toInt < (0 : Int) by omega)) q__)
  refine r_bipush 24 rfl (-102) dX9_days_22 (by decide) ?_
  refine r_ireturn rfl dX9_days_24 (Nat.le_of_ble_eq_true rfl) (Nat.le_of_ble_eq_true rfl) ?_
  exact k

set_option maxHeartbeats 4000000 in
set_option maxRecDepth 20000 in
theorem c9_days_o3 {Q : am_P} {z : am_Z} {m : Nat → Nat → Int32} {n : Nat} {H : Nat} (hH0 : 1 ≤ H) (hH : H ≤ 60) {s : Nat} (hs : s < 2 ^ 31) {u : Int32} (hu : u.toInt < 0 ∨ 2 ≤ u.toInt) (k : Q (some (.int (-102))) (wd z m) n) : AW mX9_days Q 0 (am_ent (am_l mX9_days) [.ref 1, .int (nI H), .int (nI s), .int u]) [] (wd z m) n 0 0 := by
  show AW _ _ 0 [some (.ref 1), some (.int (nI H)), some (.int (nI s)), some (.int u), none, none, none] [] _ _ 0 0
  refine r_iload_n 1 rfl 1 dX9_days_0 rfl rfl ?_
  refine r_iconst 2 rfl 1 dX9_days_1 rfl ?_
  refine r_icmp_lt 5 22 rfl dX9_days_2 rfl (fun q__ => absurd q__ (fun q__ => absurd ((nI_ltI (a := H) (b := 1) (by omega) (by omega)).mp q__) (by omega))) (fun _ => ?_)
  refine r_iload_n 6 rfl 1 dX9_days_5 rfl rfl ?_
  refine r_bipush 8 rfl 60 dX9_days_6 (by decide) ?_
  refine r_icmp_gt 11 22 rfl dX9_days_8 rfl (fun q__ => absurd q__ (fun q__ => absurd ((nI_ltI (a := 60) (b := H) (by omega) (by omega)).mp q__) (by omega))) (fun _ => ?_)
  refine r_iload_n 12 rfl 2 dX9_days_11 rfl rfl ?_
  refine r_if_lt 15 22 rfl dX9_days_12 rfl (fun q__ => absurd q__ (fun q__ => absurd ((nI_ltI (a := s) (b := 0) (by omega) (by omega)).mp q__) (by omega))) (fun _ => ?_)
  refine r_iload_n 16 rfl 3 dX9_days_15 rfl rfl ?_
  refine q_S 19 0 0 rfl [.int u] rfl dX9_days_16 cl_X9_days__X9_isZeroOrOne (lk_X9_195 rfl) st_X9_isZeroOrOne (Nat.le_of_ble_eq_true rfl) (fun _ _ => Nat.le_of_ble_eq_true rfl) rfl rfl (Nat.le_of_ble_eq_true rfl) (Nat.le_of_ble_eq_true rfl) ?_
  refine c_is01_f (by omega) (k_i ?_)
  refine r_if_ne 22 25 rfl dX9_days_19 rfl (fun q__ => absurd (by decide) q__) (fun _ => ?_)
  refine r_bipush 24 rfl (-102) dX9_days_22 (by decide) ?_
  refine r_ireturn rfl dX9_days_24 (Nat.le_of_ble_eq_true rfl) (Nat.le_of_ble_eq_true rfl) ?_
  exact k

set_option maxHeartbeats 4000000 in
set_option maxRecDepth 20000 in
theorem c9_days_s {Q : am_P} {z : am_Z} {m : Nat → Nat → Int32} {n : Nat} {H : Nat} (hH0 : 1 ≤ H) (hH : H ≤ 60) {s : Nat} (hs : s < 2 ^ 31) {w : Nat} (hw : w ≤ 1)(hfd : m 4 2 = nI 0) (k : Q (some (.int (-103))) (wd z m) n) : AW mX9_days Q 0 (am_ent (am_l mX9_days) [.ref 1, .int (nI H), .int (nI s), .int (nI w)]) [] (wd z m) n 0 0 := by
  show AW _ _ 0 [some (.ref 1), some (.int (nI H)), some (.int (nI s)), some (.int (nI w)), none, none, none] [] _ _ 0 0
  refine r_iload_n 1 rfl 1 dX9_days_0 rfl rfl ?_
  refine r_iconst 2 rfl 1 dX9_days_1 rfl ?_
  refine r_icmp_lt 5 22 rfl dX9_days_2 rfl (fun q__ => absurd q__ (fun q__ => absurd ((nI_ltI (a := H) (b := 1) (by omega) (by omega)).mp q__) (by omega))) (fun _ => ?_)
  refine r_iload_n 6 rfl 1 dX9_days_5 rfl rfl ?_
  refine r_bipush 8 rfl 60 dX9_days_6 (by decide) ?_
  refine r_icmp_gt 11 22 rfl dX9_days_8 rfl (fun q__ => absurd q__ (fun q__ => absurd ((nI_ltI (a := 60) (b := H) (by omega) (by omega)).mp q__) (by omega))) (fun _ => ?_)
  refine r_iload_n 12 rfl 2 dX9_days_11 rfl rfl ?_
  refine r_if_lt 15 22 rfl dX9_days_12 rfl (fun q__ => absurd q__ (fun q__ => absurd ((nI_ltI (a := s) (b := 0) (by omega) (by omega)).mp q__) (by omega))) (fun _ => ?_)
  refine r_iload_n 16 rfl 3 dX9_days_15 rfl rfl ?_
  refine q_S 19 0 0 rfl [.int (nI w)] rfl dX9_days_16 cl_X9_days__X9_isZeroOrOne (lk_X9_195 rfl) st_X9_isZeroOrOne (Nat.le_of_ble_eq_true rfl) (fun _ _ => Nat.le_of_ble_eq_true rfl) rfl rfl (Nat.le_of_ble_eq_true rfl) (Nat.le_of_ble_eq_true rfl) ?_
  refine c_is01_t hw (k_i ?_)
  refine r_if_ne 22 25 rfl dX9_days_19 rfl (fun _ => ?_) (fun q__ => absurd q__ (by decide))
  refine r_aload_n 26 rfl 0 dX9_days_25 rfl rfl ?_
  refine r_getf (v := .ref 4) (k := 1) 29 rfl dX9_days_26 (gf_X9_19_9 rfl) rfl rfl ?_
  refine q_V 32 0 0 rfl [] rfl dX9_days_29 cl_X9_days__X7_isThere (lk_X9_171 rfl) im_X7_isThere (ci := 7) rfl sl_X7__X7_isThere rfl (Nat.le_of_ble_eq_true rfl) (fun _ _ => Nat.le_of_ble_eq_true rfl) rfl rfl (Nat.le_of_ble_eq_true rfl) (Nat.le_of_ble_eq_true rfl) ?_
  refine c_isThere_f hfd (k_i ?_)
  refine r_if_ne 35 38 rfl dX9_days_32 rfl (fun q__ => absurd (by decide) q__) (fun _ => ?_)
  refine r_bipush 37 rfl (-103) dX9_days_35 (by decide) ?_
  refine r_ireturn rfl dX9_days_37 (Nat.le_of_ble_eq_true rfl) (Nat.le_of_ble_eq_true rfl) ?_
  exact k

set_option maxHeartbeats 4000000 in
set_option maxRecDepth 20000 in
theorem c9_days_t {Q : am_P} {z : am_Z} {m : Nat → Nat → Int32} {n : Nat} {D : Nat → Nat → Nat} (hC : C9 z m D) (hf1 : 1 ≤ D 7 0) (hbl : BL m 7) (hB : BD D 100){H : Nat} (hH0 : 1 ≤ H) (hH : H ≤ 60) {s : Nat} (hs : s < 2 ^ 31) {w : Nat} (hw : w ≤ 1) (k : ∀ m', ag [21, 22, 23, 24, 25, 26, 27, 29, 30, 31, 32] m m' → Q (some (.int (if w = 0 then nI (dB D s H) else nI (dS s H)))) (wd z m') n) : AW mX9_days Q 0 (am_ent (am_l mX9_days) [.ref 1, .int (nI H), .int (nI s), .int (nI w)]) [] (wd z m) n 0 0 := by
  show AW _ _ 0 [some (.ref 1), some (.int (nI H)), some (.int (nI s)), some (.int (nI w)), none, none, none] [] _ _ 0 0
  obtain ⟨hg, hfd, hf3, hf0, hns, hn6, hsd, hsb, hwi, hw4, hfr, hr1, hhr, hh⟩ := id hC
  refine r_iload_n 1 rfl 1 dX9_days_0 rfl rfl ?_
  refine r_iconst 2 rfl 1 dX9_days_1 rfl ?_
  refine r_icmp_lt 5 22 rfl dX9_days_2 rfl (fun q__ => absurd q__ (fun q__ => absurd ((nI_ltI (a := H) (b := 1) (by omega) (by omega)).mp q__) (by omega))) (fun _ => ?_)
  refine r_iload_n 6 rfl 1 dX9_days_5 rfl rfl ?_
  refine r_bipush 8 rfl 60 dX9_days_6 (by decide) ?_
  refine r_icmp_gt 11 22 rfl dX9_days_8 rfl (fun q__ => absurd q__ (fun q__ => absurd ((nI_ltI (a := 60) (b := H) (by omega) (by omega)).mp q__) (by omega))) (fun _ => ?_)
  refine r_iload_n 12 rfl 2 dX9_days_11 rfl rfl ?_
  refine r_if_lt 15 22 rfl dX9_days_12 rfl (fun q__ => absurd q__ (fun q__ => absurd ((nI_ltI (a := s) (b := 0) (by omega) (by omega)).mp q__) (by omega))) (fun _ => ?_)
  refine r_iload_n 16 rfl 3 dX9_days_15 rfl rfl ?_
  refine q_S 19 0 0 rfl [.int (nI w)] rfl dX9_days_16 cl_X9_days__X9_isZeroOrOne (lk_X9_195 rfl) st_X9_isZeroOrOne (Nat.le_of_ble_eq_true rfl) (fun _ _ => Nat.le_of_ble_eq_true rfl) rfl rfl (Nat.le_of_ble_eq_true rfl) (Nat.le_of_ble_eq_true rfl) ?_
  refine c_is01_t hw (k_i ?_)
  refine r_if_ne 22 25 rfl dX9_days_19 rfl (fun _ => ?_) (fun q__ => absurd q__ (by decide))
  refine r_aload_n 26 rfl 0 dX9_days_25 rfl rfl ?_
  refine r_getf (v := .ref 4) (k := 1) 29 rfl dX9_days_26 (gf_X9_19_9 rfl) rfl rfl ?_
  refine q_V 32 0 0 rfl [] rfl dX9_days_29 cl_X9_days__X7_isThere (lk_X9_171 rfl) im_X7_isThere (ci := 7) rfl sl_X7__X7_isThere rfl (Nat.le_of_ble_eq_true rfl) (fun _ _ => Nat.le_of_ble_eq_true rfl) rfl rfl (Nat.le_of_ble_eq_true rfl) (Nat.le_of_ble_eq_true rfl) ?_
  refine c_isThere_t hfd hf1 hf3 (k_i ?_)
  refine r_if_ne 35 38 rfl dX9_days_32 rfl (fun _ => ?_) (fun q__ => absurd q__ (by decide))
  refine r_aload_n 39 rfl 0 dX9_days_38 rfl rfl ?_
  refine r_getf (v := .ref 21) (k := 5) 42 rfl dX9_days_39 (gf_X9_39_9 rfl) rfl rfl ?_
  refine r_aload_n 43 rfl 0 dX9_days_42 rfl rfl ?_
  refine r_getf (v := .ref 7) (k := 3) 46 rfl dX9_days_43 (gf_X9_32_9 rfl) rfl rfl ?_
  refine q_V 49 0 0 rfl [.ref 7] rfl dX9_days_46 cl_X9_days__X5_copyFrom (lk_X9_85 rfl) im_X5_copyFrom (ci := 5) rfl sl_X5__X5_copyFrom rfl (Nat.le_of_ble_eq_true rfl) (fun _ _ => Nat.le_of_ble_eq_true rfl) rfl rfl (Nat.le_of_ble_eq_true rfl) (Nat.le_of_ble_eq_true rfl) ?_
  refine c_cf_21_7 hbl hfr hr1 (fun m1 g0 g1 g2 g3 g4 g5 g6 hag => (k_v ?_))
  refine r_iload_n 50 rfl 2 dX9_days_49 rfl rfl ?_
  refine r_istore 52 rfl [some (.ref 1), some (.int (nI H)), some (.int (nI s)), some (.int (nI w)), some (.int (nI s)), none, none] dX9_days_50 (by decide) rfl ?_
  refine r_iconst 53 rfl 0 dX9_days_52 rfl ?_
  refine r_istore 55 rfl [some (.ref 1), some (.int (nI H)), some (.int (nI s)), some (.int (nI w)), some (.int (nI s)), some (.int 0), none] dX9_days_53 (by decide) rfl ?_
  refine r_iconst 56 rfl 0 dX9_days_55 rfl ?_
  refine r_istore 58 rfl [some (.ref 1), some (.int (nI H)), some (.int (nI s)), some (.int (nI w)), some (.int (nI s)), some (.int 0), some (.int 0)] dX9_days_56 (by decide) rfl ?_
  refine AW.drop 2 [some (.ref 1), some (.int (nI H)), none, some (.int (nI w)), some (.int (nI s)), some (.int 0), some (.int 0)] rfl ?_
  have hCA : CA z m1 D := CA_of hC g0.1 g0.2.1 g0.2.2.1 g0.2.2.2.1 g1 g2 (hag 4 (by decide)) (hag 5 (by decide))
  exact lp_days9 (D := D) hs hH hw hB (fun m2 hag2 => k m2 (ag_t (ag_w hag (by decide)) hag2 (by decide))) H 0 (by omega) m1 hCA (ag_r _ _)

set_option maxHeartbeats 4000000 in
set_option maxRecDepth 20000 in
theorem lp_days10 {Q : am_P} {z : am_Z} {m : Nat → Nat → Int32} {n : Nat} {D : Nat → Nat → Nat} {s H w : Nat} {a4 a5 a6 : Int32} (hs : s < 2 ^ 31) (hH : H ≤ 60) (hw : w ≤ 1) (hB : BD D 100) (kx : ∀ m', m' 37 22 = nI (dS s H) → (∀ j, j ≠ 3 → j ≠ 4 → j ≠ 5 → j ≠ 22 → m' 37 j = m 37 j) → ag [37, 42, 43, 44, 45] m m' → AW mX10_days Q 131 [some (.ref 37), none, none, some (.int (nI w)), some (.int a4), some (.int a5), some (.int a6), some (.int (nI (dB D s H))), none] [] (wd z m') n 0 0) : ∀ (d h : Nat), h + d = H → ∀ m', C10 m' (dD D s h) → m' 37 22 = nI (dS s h) → (∀ j, j ≠ 3 → j ≠ 4 → j ≠ 5 → j ≠ 22 → m' 37 j = m 37 j) → ag [37, 42, 43, 44, 45] m m' → AW mX10_days Q 79 [some (.ref 37), some (.int (nI H)), none, some (.int (nI w)), some (.int a4), some (.int a5), some (.int a6), some (.int (nI (dB D s h))), some (.int (nI h))] [] (wd z m') n 0 0 := by
  intro d
  induction d with
  | zero =>
    intro h hh m' hC h22 h37 hag
    obtain rfl : h = H := by omega
    refine r_iload 81 rfl dX10_days_79 rfl ?_
    refine r_iload_n 82 rfl 1 dX10_days_81 rfl rfl ?_
    refine r_icmp_ge 85 131 rfl dX10_days_82 rfl (fun _ => ?_) (fun q__ => absurd ((nI_leI (a := h) (b := h) (by omega) (by omega)).mpr (by omega)) q__)
    refine AW.drop 1 [some (.ref 37), none, none, some (.int (nI w)), some (.int a4), some (.int a5), some (.int a6), some (.int (nI (dB D s h))), some (.int (nI h))] rfl ?_
    refine AW.drop 8 [some (.ref 37), none, none, some (.int (nI w)), some (.int a4), some (.int a5), some (.int a6), some (.int (nI (dB D s h))), none] rfl ?_
    exact kx m' h22 h37 hag
  | succ d ih =>
    intro h hh m' hC h22 h37 hag
    have hb := dB_le D s h
    have hs1 := dS_lt hs h
    have hs2 := nS_lt (dS s h)
    have hs3 := nS_lt (nS (dS s h))
    have hbn := bd_n_le (WH (dW (dD D s h) (dS s h))) 16
    obtain ⟨hg, hfd, hf3, hf0, hns, hn7, hmr, hwi, hw4, hfr, hr1, hhr, hh3⟩ := id hC
    have hBh : BD (dD D s h) 1 := BD_d h 1 (BD_le hB (by omega))
    refine r_iload 81 rfl dX10_days_79 rfl ?_
    refine r_iload_n 82 rfl 1 dX10_days_81 rfl rfl ?_
    refine r_icmp_ge 85 131 rfl dX10_days_82 rfl (fun q__ => absurd q__ (fun q__ => absurd ((nI_leI (a := H) (b := h) (by omega) (by omega)).mp q__) (by omega))) (fun _ => ?_)
    refine r_aload_n 86 rfl 0 dX10_days_85 rfl rfl ?_
    refine r_aload_n 87 rfl 0 dX10_days_86 rfl rfl ?_
    refine r_iconst 88 rfl 5 dX10_days_87 rfl ?_
    refine q_V 91 0 0 rfl [.int 5] rfl dX10_days_88 cl_X10_days__X10_draw (lk_X10_219 rfl) im_X10_draw (ci := 10) rfl sl_X10__X10_draw rfl (Nat.le_of_ble_eq_true rfl) (fun _ _ => Nat.le_of_ble_eq_true rfl) rfl rfl (Nat.le_of_ble_eq_true rfl) (Nat.le_of_ble_eq_true rfl) ?_
    refine c_draw10_5 (s := dS s h) (by omega) h22 (k_i ?_)
    refine w_putf 94 rfl (k := 3) (va_up (va_up m' 37 (upd (m' 37) 22 (nI (nS (dS s h))))) 37 (upd (upd (m' 37) 22 (nI (nS (dS s h)))) 3 (nI (nS (dS s h) / 65536 % 5)))) dX10_days_91 (pf_X10_86_10 rfl) (by decide) (by decide) rfl (Nat.le_of_ble_eq_true rfl) rfl ⟨rfl, rfl⟩ rfl ?_
    refine r_aload_n 95 rfl 0 dX10_days_94 rfl rfl ?_
    refine r_aload_n 96 rfl 0 dX10_days_95 rfl rfl ?_
    refine r_bipush 98 rfl 6 dX10_days_96 (by decide) ?_
    refine q_V 101 0 0 rfl [.int 6] rfl dX10_days_98 cl_X10_days__X10_draw (lk_X10_219 rfl) im_X10_draw (ci := 10) rfl sl_X10__X10_draw rfl (Nat.le_of_ble_eq_true rfl) (fun _ _ => Nat.le_of_ble_eq_true rfl) rfl rfl (Nat.le_of_ble_eq_true rfl) (Nat.le_of_ble_eq_true rfl) ?_
    refine c_draw10_6 (m := (va_up (va_up m' 37 (upd (m' 37) 22 (nI (nS (dS s h))))) 37 (upd (upd (m' 37) 22 (nI (nS (dS s h)))) 3 (nI (nS (dS s h) / 65536 % 5))))) (s := nS (dS s h)) (by omega) rfl (k_i ?_)
    refine r_if_ne 104 108 rfl dX10_days_101 rfl (fun c101 => ?_) (fun c101 => ?_)
    · replace c101 : ¬ (nS (nS (dS s h)) / 65536 % 6) = 0 := fun q__ => c101 ((nI_eq (a := (nS (nS (dS s h)) / 65536 % 6)) (b := 0) (by omega) (by omega)).mpr q__)
      refine r_iconst 109 rfl 0 dX10_days_108 rfl ?_
      refine w_putf 112 rfl (k := 4) (va_up (va_up (va_up (va_up m' 37 (upd (m' 37) 22 (nI (nS (dS s h))))) 37 (upd (upd (m' 37) 22 (nI (nS (dS s h)))) 3 (nI (nS (dS s h) / 65536 % 5)))) 37 (upd (upd (upd (m' 37) 22 (nI (nS (dS s h)))) 3 (nI (nS (dS s h) / 65536 % 5))) 22 (nI (nS (nS (dS s h)))))) 37 (upd (upd (upd (upd (m' 37) 22 (nI (nS (dS s h)))) 3 (nI (nS (dS s h) / 65536 % 5))) 22 (nI (nS (nS (dS s h))))) 4 0)) dX10_days_109 (pf_X10_89_10 rfl) (by decide) (by decide) rfl (Nat.le_of_ble_eq_true rfl) rfl ⟨rfl, rfl⟩ rfl ?_
      refine r_iload 114 rfl dX10_days_112 rfl ?_
      refine r_aload_n 115 rfl 0 dX10_days_114 rfl rfl ?_
      have hCw : C10 (va_up (va_up (va_up (va_up m' 37 (upd (m' 37) 22 (nI (nS (dS s h))))) 37 (upd (upd (m' 37) 22 (nI (nS (dS s h)))) 3 (nI (nS (dS s h) / 65536 % 5)))) 37 (upd (upd (upd (m' 37) 22 (nI (nS (dS s h)))) 3 (nI (nS (dS s h) / 65536 % 5))) 22 (nI (nS (nS (dS s h)))))) 37 (upd (upd (upd (upd (m' 37) 22 (nI (nS (dS s h)))) 3 (nI (nS (dS s h) / 65536 % 5))) 22 (nI (nS (nS (dS s h))))) 4 0)) (dW (dD D s h) (dS s h)) := ⟨hg, hfd, hf3, hf0, hns, hn7, hmr, rfl, (show nS (dS s h) / 65536 % 5 ≤ 4 by omega), (show (0 : Int32) = nI (if nS (nS (dS s h)) / 65536 % 6 = 0 then 1 else 0) by rw [if_neg c101]; rfl), (show (if nS (nS (dS s h)) / 65536 % 6 = 0 then 1 else 0) ≤ 1 by split <;> decide), hhr, hh3⟩
      refine q_V 118 0 0 rfl [] rfl dX10_days_115 cl_X10_days__X10_bordersOf (lk_X10_158 rfl) im_X10_bordersOf (ci := 10) rfl sl_X10__X10_bordersOf rfl (Nat.le_of_ble_eq_true rfl) (fun _ _ => Nat.le_of_ble_eq_true rfl) rfl rfl (Nat.le_of_ble_eq_true rfl) (Nat.le_of_ble_eq_true rfl) ?_
      refine c_bordersOf hCw (fun m2 hM hag2 => (k_i ?_))
      have hC2 := C10_ag hCw hag2 (by decide)
      refine r_iadd 119 rfl dX10_days_118 ?_
      rw [show (nI (dB D s h)) + (nI (bd_n (WH (dW (dD D s h) (dS s h))) 16)) = nI ((dB D s h) + (bd_n (WH (dW (dD D s h) (dS s h))) 16)) from nI_add (dB D s h) (bd_n (WH (dW (dD D s h) (dS s h))) 16)]
      refine r_istore 121 rfl [some (.ref 37), some (.int (nI H)), none, some (.int (nI w)), some (.int a4), some (.int a5), some (.int a6), some (.int (nI ((dB D s h) + (bd_n (WH (dW (dD D s h) (dS s h))) 16)))), some (.int (nI h))] dX10_days_119 (by decide) rfl ?_
      refine r_aload_n 122 rfl 0 dX10_days_121 rfl rfl ?_
      refine q_V 125 0 0 rfl [] rfl dX10_days_122 cl_X10_days__X10_ends (lk_X10_173 rfl) im_X10_ends (ci := 10) rfl sl_X10__X10_ends rfl (Nat.le_of_ble_eq_true rfl) (fun _ _ => Nat.le_of_ble_eq_true rfl) rfl rfl (Nat.le_of_ble_eq_true rfl) (Nat.le_of_ble_eq_true rfl) ?_
      refine c_ends hC2 (BD_dW hBh) (fun m3 hC3 _ e37 hag3 => (k_v ?_))
      refine r_iinc 128 rfl (nI (h + 1)) [some (.ref 37), some (.int (nI H)), none, some (.int (nI w)), some (.int a4), some (.int a5), some (.int a6), some (.int (nI ((dB D s h) + (bd_n (WH (dW (dD D s h) (dS s h))) 16)))), some (.int (nI (h + 1)))] dX10_days_125 rfl (nI_1 _) (by decide) rfl ?_
      refine r_goto 79 dX10_days_128 rfl ?_
      refine ih (h + 1) (by omega) m3 hC3 ?_ (fun j j3 j4 j5 j22 => ?_) (ag_t (ag_t (ag_up (ag_up (ag_up (ag_up hag (by decide)) (by decide)) (by decide)) (by decide)) hag2 (by decide)) hag3 (by decide))
      · rw [e37, hag2 37 (by decide)]; rfl
      · rw [e37, hag2 37 (by decide), va_up_self]; unfold upd; simp only [if_neg j3, if_neg j4, if_neg j5, if_neg j22]; exact h37 j j3 j4 j5 j22
    · replace c101 : nS (nS (dS s h)) / 65536 % 6 = 0 := (nI_eq (a := (nS (nS (dS s h)) / 65536 % 6)) (b := 0) (by omega) (by omega)).mp c101
      refine r_iconst 105 rfl 1 dX10_days_104 rfl ?_
      refine r_goto 109 dX10_days_105 rfl ?_
      refine w_putf 112 rfl (k := 4) (va_up (va_up (va_up (va_up m' 37 (upd (m' 37) 22 (nI (nS (dS s h))))) 37 (upd (upd (m' 37) 22 (nI (nS (dS s h)))) 3 (nI (nS (dS s h) / 65536 % 5)))) 37 (upd (upd (upd (m' 37) 22 (nI (nS (dS s h)))) 3 (nI (nS (dS s h) / 65536 % 5))) 22 (nI (nS (nS (dS s h)))))) 37 (upd (upd (upd (upd (m' 37) 22 (nI (nS (dS s h)))) 3 (nI (nS (dS s h) / 65536 % 5))) 22 (nI (nS (nS (dS s h))))) 4 1)) dX10_days_109 (pf_X10_89_10 rfl) (by decide) (by decide) rfl (Nat.le_of_ble_eq_true rfl) rfl ⟨rfl, rfl⟩ rfl ?_
      refine r_iload 114 rfl dX10_days_112 rfl ?_
      refine r_aload_n 115 rfl 0 dX10_days_114 rfl rfl ?_
      have hCw : C10 (va_up (va_up (va_up (va_up m' 37 (upd (m' 37) 22 (nI (nS (dS s h))))) 37 (upd (upd (m' 37) 22 (nI (nS (dS s h)))) 3 (nI (nS (dS s h) / 65536 % 5)))) 37 (upd (upd (upd (m' 37) 22 (nI (nS (dS s h)))) 3 (nI (nS (dS s h) / 65536 % 5))) 22 (nI (nS (nS (dS s h)))))) 37 (upd (upd (upd (upd (m' 37) 22 (nI (nS (dS s h)))) 3 (nI (nS (dS s h) / 65536 % 5))) 22 (nI (nS (nS (dS s h))))) 4 1)) (dW (dD D s h) (dS s h)) := ⟨hg, hfd, hf3, hf0, hns, hn7, hmr, rfl, (show nS (dS s h) / 65536 % 5 ≤ 4 by omega), (show (1 : Int32) = nI (if nS (nS (dS s h)) / 65536 % 6 = 0 then 1 else 0) by rw [if_pos c101]; rfl), (show (if nS (nS (dS s h)) / 65536 % 6 = 0 then 1 else 0) ≤ 1 by split <;> decide), hhr, hh3⟩
      refine q_V 118 0 0 rfl [] rfl dX10_days_115 cl_X10_days__X10_bordersOf (lk_X10_158 rfl) im_X10_bordersOf (ci := 10) rfl sl_X10__X10_bordersOf rfl (Nat.le_of_ble_eq_true rfl) (fun _ _ => Nat.le_of_ble_eq_true rfl) rfl rfl (Nat.le_of_ble_eq_true rfl) (Nat.le_of_ble_eq_true rfl) ?_
      refine c_bordersOf hCw (fun m2 hM hag2 => (k_i ?_))
      have hC2 := C10_ag hCw hag2 (by decide)
      refine r_iadd 119 rfl dX10_days_118 ?_
      rw [show (nI (dB D s h)) + (nI (bd_n (WH (dW (dD D s h) (dS s h))) 16)) = nI ((dB D s h) + (bd_n (WH (dW (dD D s h) (dS s h))) 16)) from nI_add (dB D s h) (bd_n (WH (dW (dD D s h) (dS s h))) 16)]
      refine r_istore 121 rfl [some (.ref 37), some (.int (nI H)), none, some (.int (nI w)), some (.int a4), some (.int a5), some (.int a6), some (.int (nI ((dB D s h) + (bd_n (WH (dW (dD D s h) (dS s h))) 16)))), some (.int (nI h))] dX10_days_119 (by decide) rfl ?_
      refine r_aload_n 122 rfl 0 dX10_days_121 rfl rfl ?_
      refine q_V 125 0 0 rfl [] rfl dX10_days_122 cl_X10_days__X10_ends (lk_X10_173 rfl) im_X10_ends (ci := 10) rfl sl_X10__X10_ends rfl (Nat.le_of_ble_eq_true rfl) (fun _ _ => Nat.le_of_ble_eq_true rfl) rfl rfl (Nat.le_of_ble_eq_true rfl) (Nat.le_of_ble_eq_true rfl) ?_
      refine c_ends hC2 (BD_dW hBh) (fun m3 hC3 _ e37 hag3 => (k_v ?_))
      refine r_iinc 128 rfl (nI (h + 1)) [some (.ref 37), some (.int (nI H)), none, some (.int (nI w)), some (.int a4), some (.int a5), some (.int a6), some (.int (nI ((dB D s h) + (bd_n (WH (dW (dD D s h) (dS s h))) 16)))), some (.int (nI (h + 1)))] dX10_days_125 rfl (nI_1 _) (by decide) rfl ?_
      refine r_goto 79 dX10_days_128 rfl ?_
      refine ih (h + 1) (by omega) m3 hC3 ?_ (fun j j3 j4 j5 j22 => ?_) (ag_t (ag_t (ag_up (ag_up (ag_up (ag_up hag (by decide)) (by decide)) (by decide)) (by decide)) hag2 (by decide)) hag3 (by decide))
      · rw [e37, hag2 37 (by decide)]; rfl
      · rw [e37, hag2 37 (by decide), va_up_self]; unfold upd; simp only [if_neg j3, if_neg j4, if_neg j5, if_neg j22]; exact h37 j j3 j4 j5 j22

set_option maxHeartbeats 4000000 in
set_option maxRecDepth 20000 in
theorem c10_days_o1 {Q : am_P} {z : am_Z} {m : Nat → Nat → Int32} {n : Nat} {x : Int32} (hx : x.toInt < 1 ∨ 60 < x.toInt) {y u : Int32} (k : Q (some (.int (-102))) (wd z m) n) : AW mX10_days Q 0 (am_ent (am_l mX10_days) [.ref 37, .int x, .int y, .int u]) [] (wd z m) n 0 0 := by
  show AW _ _ 0 [some (.ref 37), some (.int x), some (.int y), some (.int u), none, none, none, none, none] [] _ _ 0 0
  refine r_iload_n 1 rfl 1 dX10_days_0 rfl rfl ?_
  refine r_i2l 2 rfl dX10_days_1 ?_
  refine r_lconst 3 rfl 1 dX10_days_2 rfl ?_
  refine r_ldc2 6 rfl 60 dX10_days_3 (cn_X10_217 rfl) ?_
  refine q_S 9 0 0 rfl [.long x.toInt64, .long 1, .long 60] rfl dX10_days_6 cl_X10_days__X10_in (lk_X10_64 rfl) st_X10_in (Nat.le_of_ble_eq_true rfl) (fun _ _ => Nat.le_of_ble_eq_true rfl) rfl rfl (Nat.le_of_ble_eq_true rfl) (Nat.le_of_ble_eq_true rfl) ?_
  refine c_in_f (show x.toInt64.toInt < (1 : Int) ∨ (60 : Int) < x.toInt64.toInt by rw [Int32.toInt_toInt64]; omega) (k_i ?_)
  refine r_if_eq 12 26 rfl dX10_days_9 rfl (fun _ => ?_) (fun q__ => absurd (by decide) q__)
  refine r_bipush 28 rfl (-102) dX10_days_26 (by decide) ?_
  refine r_ireturn rfl dX10_days_28 (Nat.le_of_ble_eq_true rfl) (Nat.le_of_ble_eq_true rfl) ?_
  exact k

set_option maxHeartbeats 4000000 in
set_option maxRecDepth 20000 in
theorem c10_days_o2 {Q : am_P} {z : am_Z} {m : Nat → Nat → Int32} {n : Nat} {H : Nat} (hH0 : 1 ≤ H) (hH : H ≤ 60) {y : Int32} (hy : y.toInt < 0) {u : Int32} (k : Q (some (.int (-102))) (wd z m) n) : AW mX10_days Q 0 (am_ent (am_l mX10_days) [.ref 37, .int (nI H), .int y, .int u]) [] (wd z m) n 0 0 := by
  show AW _ _ 0 [some (.ref 37), some (.int (nI H)), some (.int y), some (.int u), none, none, none, none, none] [] _ _ 0 0
  refine r_iload_n 1 rfl 1 dX10_days_0 rfl rfl ?_
  refine r_i2l 2 rfl dX10_days_1 ?_
  refine r_lconst 3 rfl 1 dX10_days_2 rfl ?_
  refine r_ldc2 6 rfl 60 dX10_days_3 (cn_X10_217 rfl) ?_
  refine q_S 9 0 0 rfl [.long ((nI H).toInt64), .long 1, .long 60] rfl dX10_days_6 cl_X10_days__X10_in (lk_X10_64 rfl) st_X10_in (Nat.le_of_ble_eq_true rfl) (fun _ _ => Nat.le_of_ble_eq_true rfl) rfl rfl (Nat.le_of_ble_eq_true rfl) (Nat.le_of_ble_eq_true rfl) ?_
  refine c_in_t (show (1 : Int) ≤ (nI H).toInt64.toInt by rw [Int32.toInt_toInt64, nI_toInt (by omega)]; omega) (show (nI H).toInt64.toInt ≤ (60 : Int) by rw [Int32.toInt_toInt64, nI_toInt (by omega)]; omega) (k_i ?_)
  refine r_if_eq 12 26 rfl dX10_days_9 rfl (fun q__ => absurd q__ (by decide)) (fun _ => ?_)
  refine r_iload_n 13 rfl 2 dX10_days_12 rfl rfl ?_
  refine r_if_lt 16 26 rfl dX10_days_13 rfl (fun _ => ?_) (fun q__ => absurd (Int32.lt_iff_toInt_lt.mpr (show y.toInt < (0 : Int) by omega)) q__)
  refine r_bipush 28 rfl (-102) dX10_days_26 (by decide) ?_
  refine r_ireturn rfl dX10_days_28 (Nat.le_of_ble_eq_true rfl) (Nat.le_of_ble_eq_true rfl) ?_
  exact k

set_option maxHeartbeats 4000000 in
set_option maxRecDepth 20000 in
theorem c10_days_o3 {Q : am_P} {z : am_Z} {m : Nat → Nat → Int32} {n : Nat} {H : Nat} (hH0 : 1 ≤ H) (hH : H ≤ 60) {s : Nat} (hs : s < 2 ^ 31) {u : Int32} (hu : u.toInt < 0 ∨ 2 ≤ u.toInt) (k : Q (some (.int (-102))) (wd z m) n) : AW mX10_days Q 0 (am_ent (am_l mX10_days) [.ref 37, .int (nI H), .int (nI s), .int u]) [] (wd z m) n 0 0 := by
  show AW _ _ 0 [some (.ref 37), some (.int (nI H)), some (.int (nI s)), some (.int u), none, none, none, none, none] [] _ _ 0 0
  refine r_iload_n 1 rfl 1 dX10_days_0 rfl rfl ?_
  refine r_i2l 2 rfl dX10_days_1 ?_
  refine r_lconst 3 rfl 1 dX10_days_2 rfl ?_
  refine r_ldc2 6 rfl 60 dX10_days_3 (cn_X10_217 rfl) ?_
  refine q_S 9 0 0 rfl [.long ((nI H).toInt64), .long 1, .long 60] rfl dX10_days_6 cl_X10_days__X10_in (lk_X10_64 rfl) st_X10_in (Nat.le_of_ble_eq_true rfl) (fun _ _ => Nat.le_of_ble_eq_true rfl) rfl rfl (Nat.le_of_ble_eq_true rfl) (Nat.le_of_ble_eq_true rfl) ?_
  refine c_in_t (show (1 : Int) ≤ (nI H).toInt64.toInt by rw [Int32.toInt_toInt64, nI_toInt (by omega)]; omega) (show (nI H).toInt64.toInt ≤ (60 : Int) by rw [Int32.toInt_toInt64, nI_toInt (by omega)]; omega) (k_i ?_)
  refine r_if_eq 12 26 rfl dX10_days_9 rfl (fun q__ => absurd q__ (by decide)) (fun _ => ?_)
  refine r_iload_n 13 rfl 2 dX10_days_12 rfl rfl ?_
  refine r_if_lt 16 26 rfl dX10_days_13 rfl (fun q__ => absurd q__ (fun q__ => absurd ((nI_ltI (a := s) (b := 0) (by omega) (by omega)).mp q__) (by omega))) (fun _ => ?_)
  refine r_iload_n 17 rfl 3 dX10_days_16 rfl rfl ?_
  refine r_i2l 18 rfl dX10_days_17 ?_
  refine r_lconst 19 rfl 0 dX10_days_18 rfl ?_
  refine r_lconst 20 rfl 1 dX10_days_19 rfl ?_
  refine q_S 23 0 0 rfl [.long u.toInt64, .long 0, .long 1] rfl dX10_days_20 cl_X10_days__X10_in (lk_X10_64 rfl) st_X10_in (Nat.le_of_ble_eq_true rfl) (fun _ _ => Nat.le_of_ble_eq_true rfl) rfl rfl (Nat.le_of_ble_eq_true rfl) (Nat.le_of_ble_eq_true rfl) ?_
  refine c_in_f (show u.toInt64.toInt < (0 : Int) ∨ (1 : Int) < u.toInt64.toInt by rw [Int32.toInt_toInt64]; omega) (k_i ?_)
  refine r_if_ne 26 29 rfl dX10_days_23 rfl (fun q__ => absurd (by decide) q__) (fun _ => ?_)
  refine r_bipush 28 rfl (-102) dX10_days_26 (by decide) ?_
  refine r_ireturn rfl dX10_days_28 (Nat.le_of_ble_eq_true rfl) (Nat.le_of_ble_eq_true rfl) ?_
  exact k

set_option maxHeartbeats 4000000 in
set_option maxRecDepth 20000 in
theorem c10_days_s {Q : am_P} {z : am_Z} {m : Nat → Nat → Int32} {n : Nat} {H : Nat} (hH0 : 1 ≤ H) (hH : H ≤ 60) {s : Nat} (hs : s < 2 ^ 31) {w : Nat} (hw : w ≤ 1)(hfd : m 37 2 = nI 0) (k : Q (some (.int (-103))) (wd z m) n) : AW mX10_days Q 0 (am_ent (am_l mX10_days) [.ref 37, .int (nI H), .int (nI s), .int (nI w)]) [] (wd z m) n 0 0 := by
  show AW _ _ 0 [some (.ref 37), some (.int (nI H)), some (.int (nI s)), some (.int (nI w)), none, none, none, none, none] [] _ _ 0 0
  refine r_iload_n 1 rfl 1 dX10_days_0 rfl rfl ?_
  refine r_i2l 2 rfl dX10_days_1 ?_
  refine r_lconst 3 rfl 1 dX10_days_2 rfl ?_
  refine r_ldc2 6 rfl 60 dX10_days_3 (cn_X10_217 rfl) ?_
  refine q_S 9 0 0 rfl [.long ((nI H).toInt64), .long 1, .long 60] rfl dX10_days_6 cl_X10_days__X10_in (lk_X10_64 rfl) st_X10_in (Nat.le_of_ble_eq_true rfl) (fun _ _ => Nat.le_of_ble_eq_true rfl) rfl rfl (Nat.le_of_ble_eq_true rfl) (Nat.le_of_ble_eq_true rfl) ?_
  refine c_in_t (show (1 : Int) ≤ (nI H).toInt64.toInt by rw [Int32.toInt_toInt64, nI_toInt (by omega)]; omega) (show (nI H).toInt64.toInt ≤ (60 : Int) by rw [Int32.toInt_toInt64, nI_toInt (by omega)]; omega) (k_i ?_)
  refine r_if_eq 12 26 rfl dX10_days_9 rfl (fun q__ => absurd q__ (by decide)) (fun _ => ?_)
  refine r_iload_n 13 rfl 2 dX10_days_12 rfl rfl ?_
  refine r_if_lt 16 26 rfl dX10_days_13 rfl (fun q__ => absurd q__ (fun q__ => absurd ((nI_ltI (a := s) (b := 0) (by omega) (by omega)).mp q__) (by omega))) (fun _ => ?_)
  refine r_iload_n 17 rfl 3 dX10_days_16 rfl rfl ?_
  refine r_i2l 18 rfl dX10_days_17 ?_
  refine r_lconst 19 rfl 0 dX10_days_18 rfl ?_
  refine r_lconst 20 rfl 1 dX10_days_19 rfl ?_
  refine q_S 23 0 0 rfl [.long ((nI w).toInt64), .long 0, .long 1] rfl dX10_days_20 cl_X10_days__X10_in (lk_X10_64 rfl) st_X10_in (Nat.le_of_ble_eq_true rfl) (fun _ _ => Nat.le_of_ble_eq_true rfl) rfl rfl (Nat.le_of_ble_eq_true rfl) (Nat.le_of_ble_eq_true rfl) ?_
  refine c_in_t (show (0 : Int) ≤ (nI w).toInt64.toInt by rw [Int32.toInt_toInt64, nI_toInt (by omega)]; omega) (show (nI w).toInt64.toInt ≤ (1 : Int) by rw [Int32.toInt_toInt64, nI_toInt (by omega)]; omega) (k_i ?_)
  refine r_if_ne 26 29 rfl dX10_days_23 rfl (fun _ => ?_) (fun q__ => absurd q__ (by decide))
  refine r_aload_n 30 rfl 0 dX10_days_29 rfl rfl ?_
  refine q_V 33 0 0 rfl [] rfl dX10_days_30 cl_X10_days__X10_lacks (lk_X10_109 rfl) im_X10_lacks (ci := 10) rfl sl_X10__X10_lacks rfl (Nat.le_of_ble_eq_true rfl) (fun _ _ => Nat.le_of_ble_eq_true rfl) rfl rfl (Nat.le_of_ble_eq_true rfl) (Nat.le_of_ble_eq_true rfl) ?_
  refine c_lacks_t hfd (k_i ?_)
  refine r_if_eq 36 39 rfl dX10_days_33 rfl (fun q__ => absurd q__ (by decide)) (fun _ => ?_)
  refine r_bipush 38 rfl (-103) dX10_days_36 (by decide) ?_
  refine r_ireturn rfl dX10_days_38 (Nat.le_of_ble_eq_true rfl) (Nat.le_of_ble_eq_true rfl) ?_
  exact k

set_option maxHeartbeats 4000000 in
set_option maxRecDepth 20000 in
theorem c10_days_t {Q : am_P} {z : am_Z} {m : Nat → Nat → Int32} {n : Nat} {D : Nat → Nat → Nat} (hC : C10 m D) (hf1 : 1 ≤ D 7 0) (hB : BD D 100){H : Nat} (hH0 : 1 ≤ H) (hH : H ≤ 60) {s : Nat} (hs : s < 2 ^ 31) {w : Nat} (hw : w ≤ 1) (k : ∀ m', (∀ j, j < 42 → m' 42 j = m 42 j) → (∀ j, j ≠ 22 → m' 37 j = m 37 j) → ag [37, 42, 43, 44, 45, 47] m m' → Q (some (.int (if w = 0 then nI (dB D s H) else nI (dS s H)))) (wd z m') n) : AW mX10_days Q 0 (am_ent (am_l mX10_days) [.ref 37, .int (nI H), .int (nI s), .int (nI w)]) [] (wd z m) n 0 0 := by
  show AW _ _ 0 [some (.ref 37), some (.int (nI H)), some (.int (nI s)), some (.int (nI w)), none, none, none, none, none] [] _ _ 0 0
  obtain ⟨hg, hfd, hf3, hf0, hns, hn7, hmr, hwi, hw4, hfr, hr1, hhr, hh⟩ := id hC
  refine r_iload_n 1 rfl 1 dX10_days_0 rfl rfl ?_
  refine r_i2l 2 rfl dX10_days_1 ?_
  refine r_lconst 3 rfl 1 dX10_days_2 rfl ?_
  refine r_ldc2 6 rfl 60 dX10_days_3 (cn_X10_217 rfl) ?_
  refine q_S 9 0 0 rfl [.long ((nI H).toInt64), .long 1, .long 60] rfl dX10_days_6 cl_X10_days__X10_in (lk_X10_64 rfl) st_X10_in (Nat.le_of_ble_eq_true rfl) (fun _ _ => Nat.le_of_ble_eq_true rfl) rfl rfl (Nat.le_of_ble_eq_true rfl) (Nat.le_of_ble_eq_true rfl) ?_
  refine c_in_t (show (1 : Int) ≤ (nI H).toInt64.toInt by rw [Int32.toInt_toInt64, nI_toInt (by omega)]; omega) (show (nI H).toInt64.toInt ≤ (60 : Int) by rw [Int32.toInt_toInt64, nI_toInt (by omega)]; omega) (k_i ?_)
  refine r_if_eq 12 26 rfl dX10_days_9 rfl (fun q__ => absurd q__ (by decide)) (fun _ => ?_)
  refine r_iload_n 13 rfl 2 dX10_days_12 rfl rfl ?_
  refine r_if_lt 16 26 rfl dX10_days_13 rfl (fun q__ => absurd q__ (fun q__ => absurd ((nI_ltI (a := s) (b := 0) (by omega) (by omega)).mp q__) (by omega))) (fun _ => ?_)
  refine r_iload_n 17 rfl 3 dX10_days_16 rfl rfl ?_
  refine r_i2l 18 rfl dX10_days_17 ?_
  refine r_lconst 19 rfl 0 dX10_days_18 rfl ?_
  refine r_lconst 20 rfl 1 dX10_days_19 rfl ?_
  refine q_S 23 0 0 rfl [.long ((nI w).toInt64), .long 0, .long 1] rfl dX10_days_20 cl_X10_days__X10_in (lk_X10_64 rfl) st_X10_in (Nat.le_of_ble_eq_true rfl) (fun _ _ => Nat.le_of_ble_eq_true rfl) rfl rfl (Nat.le_of_ble_eq_true rfl) (Nat.le_of_ble_eq_true rfl) ?_
  refine c_in_t (show (0 : Int) ≤ (nI w).toInt64.toInt by rw [Int32.toInt_toInt64, nI_toInt (by omega)]; omega) (show (nI w).toInt64.toInt ≤ (1 : Int) by rw [Int32.toInt_toInt64, nI_toInt (by omega)]; omega) (k_i ?_)
  refine r_if_ne 26 29 rfl dX10_days_23 rfl (fun _ => ?_) (fun q__ => absurd q__ (by decide))
  refine r_aload_n 30 rfl 0 dX10_days_29 rfl rfl ?_
  refine q_V 33 0 0 rfl [] rfl dX10_days_30 cl_X10_days__X10_lacks (lk_X10_109 rfl) im_X10_lacks (ci := 10) rfl sl_X10__X10_lacks rfl (Nat.le_of_ble_eq_true rfl) (fun _ _ => Nat.le_of_ble_eq_true rfl) rfl rfl (Nat.le_of_ble_eq_true rfl) (Nat.le_of_ble_eq_true rfl) ?_
  refine c_lacks_f hfd hf1 hf3 (k_i ?_)
  refine r_if_eq 36 39 rfl dX10_days_33 rfl (fun _ => ?_) (fun q__ => absurd (by decide) q__)
  refine r_aload_n 40 rfl 0 dX10_days_39 rfl rfl ?_
  refine r_getf (v := .ref 42) (k := 11) 43 rfl dX10_days_40 (gf_X10_22_10 rfl) rfl rfl ?_
  refine r_aload_n 44 rfl 0 dX10_days_43 rfl rfl ?_
  refine r_getf (v := .ref 47) (k := 17) 47 rfl dX10_days_44 (gf_X10_37_10 rfl) rfl rfl ?_
  refine q_S 50 0 0 rfl [.ref 42, .ref 47] rfl dX10_days_47 cl_X10_days__X10_copy (lk_X10_186 rfl) st_X10_copy (Nat.le_of_ble_eq_true rfl) (fun _ _ => Nat.le_of_ble_eq_true rfl) rfl rfl (Nat.le_of_ble_eq_true rfl) (Nat.le_of_ble_eq_true rfl) ?_
  refine c_cp_42_47 (fun m1 r47 hag1 => (k_v ?_))
  have hC1 := C10_ag hC hag1 (by decide)
  refine r_aload_n 51 rfl 0 dX10_days_50 rfl rfl ?_
  refine r_getf (v := .int ((m1 37) 5)) (k := 5) 54 rfl dX10_days_51 (gf_X10_92_10 rfl) rfl rfl ?_
  refine r_istore 56 rfl [some (.ref 37), some (.int (nI H)), some (.int (nI s)), some (.int (nI w)), some (.int ((m1 37) 5)), none, none, none, none] dX10_days_54 (by decide) rfl ?_
  refine r_aload_n 57 rfl 0 dX10_days_56 rfl rfl ?_
  refine r_getf (v := .int ((m1 37) 3)) (k := 3) 60 rfl dX10_days_57 (gf_X10_86_10 rfl) rfl rfl ?_
  refine r_istore 62 rfl [some (.ref 37), some (.int (nI H)), some (.int (nI s)), some (.int (nI w)), some (.int ((m1 37) 5)), some (.int ((m1 37) 3)), none, none, none] dX10_days_60 (by decide) rfl ?_
  refine r_aload_n 63 rfl 0 dX10_days_62 rfl rfl ?_
  refine r_getf (v := .int ((m1 37) 4)) (k := 4) 66 rfl dX10_days_63 (gf_X10_89_10 rfl) rfl rfl ?_
  refine r_istore 68 rfl [some (.ref 37), some (.int (nI H)), some (.int (nI s)), some (.int (nI w)), some (.int ((m1 37) 5)), some (.int ((m1 37) 3)), some (.int ((m1 37) 4)), none, none] dX10_days_66 (by decide) rfl ?_
  refine r_aload_n 69 rfl 0 dX10_days_68 rfl rfl ?_
  refine r_iload_n 70 rfl 2 dX10_days_69 rfl rfl ?_
  refine w_putf 73 rfl (k := 22) (va_up m1 37 (upd (m1 37) 22 (nI s))) dX10_days_70 (pf_X10_209_10 rfl) (by decide) (by decide) rfl (Nat.le_of_ble_eq_true rfl) rfl ⟨rfl, rfl⟩ rfl ?_
  refine r_iconst 74 rfl 0 dX10_days_73 rfl ?_
  refine r_istore 76 rfl [some (.ref 37), some (.int (nI H)), some (.int (nI s)), some (.int (nI w)), some (.int ((m1 37) 5)), some (.int ((m1 37) 3)), some (.int ((m1 37) 4)), some (.int 0), none] dX10_days_74 (by decide) rfl ?_
  refine r_iconst 77 rfl 0 dX10_days_76 rfl ?_
  refine r_istore 79 rfl [some (.ref 37), some (.int (nI H)), some (.int (nI s)), some (.int (nI w)), some (.int ((m1 37) 5)), some (.int ((m1 37) 3)), some (.int ((m1 37) 4)), some (.int 0), some (.int 0)] dX10_days_77 (by decide) rfl ?_
  refine AW.drop 2 [some (.ref 37), some (.int (nI H)), none, some (.int (nI w)), some (.int ((m1 37) 5)), some (.int ((m1 37) 3)), some (.int ((m1 37) 4)), some (.int 0), some (.int 0)] rfl ?_
  refine lp_days10 (m := va_up m1 37 (upd (m1 37) 22 (nI s))) (D := D) hs hH hw hB (fun m3 h22 h37 hag3 => ?_) H 0 (by omega) (va_up m1 37 (upd (m1 37) 22 (nI s))) hC1 rfl (fun _ _ _ _ _ => rfl) (ag_r _ _)
  refine r_aload_n 132 rfl 0 dX10_days_131 rfl rfl ?_
  refine r_getf (v := .ref 47) (k := 17) 135 rfl dX10_days_132 (gf_X10_37_10 rfl) rfl rfl ?_
  refine r_aload_n 136 rfl 0 dX10_days_135 rfl rfl ?_
  refine r_getf (v := .ref 42) (k := 11) 139 rfl dX10_days_136 (gf_X10_22_10 rfl) rfl rfl ?_
  refine q_S 142 0 0 rfl [.ref 47, .ref 42] rfl dX10_days_139 cl_X10_days__X10_copy (lk_X10_186 rfl) st_X10_copy (Nat.le_of_ble_eq_true rfl) (fun _ _ => Nat.le_of_ble_eq_true rfl) rfl rfl (Nat.le_of_ble_eq_true rfl) (Nat.le_of_ble_eq_true rfl) ?_
  refine c_cp_47_42 (fun m4 r42 hag4 => (k_v ?_))
  have h42' : ∀ j, j < 42 → m4 42 j = m 42 j := fun j hj => by rw [r42 j hj, hag3 47 (by decide), va_up_ne _ _ (by decide), r47 j hj]
  have e22 : m4 37 22 = nI (dS s H) := by rw [hag4 37 (by decide)]; exact h22
  refine r_aload_n 143 rfl 0 dX10_days_142 rfl rfl ?_
  refine r_iload 145 rfl dX10_days_143 rfl ?_
  refine w_putf 148 rfl (k := 5) (va_up m4 37 (upd (m4 37) 5 (m1 37 5))) dX10_days_145 (pf_X10_92_10 rfl) (by decide) (by decide) rfl (Nat.le_of_ble_eq_true rfl) rfl ⟨rfl, rfl⟩ rfl ?_
  refine r_aload_n 149 rfl 0 dX10_days_148 rfl rfl ?_
  refine r_iload 151 rfl dX10_days_149 rfl ?_
  refine w_putf 154 rfl (k := 3) (va_up (va_up m4 37 (upd (m4 37) 5 (m1 37 5))) 37 (upd (upd (m4 37) 5 (m1 37 5)) 3 (m1 37 3))) dX10_days_151 (pf_X10_86_10 rfl) (by decide) (by decide) rfl (Nat.le_of_ble_eq_true rfl) rfl ⟨rfl, rfl⟩ rfl ?_
  refine r_aload_n 155 rfl 0 dX10_days_154 rfl rfl ?_
  refine r_iload 157 rfl dX10_days_155 rfl ?_
  refine w_putf 160 rfl (k := 4) (va_up (va_up (va_up m4 37 (upd (m4 37) 5 (m1 37 5))) 37 (upd (upd (m4 37) 5 (m1 37 5)) 3 (m1 37 3))) 37 (upd (upd (upd (m4 37) 5 (m1 37 5)) 3 (m1 37 3)) 4 (m1 37 4))) dX10_days_157 (pf_X10_89_10 rfl) (by decide) (by decide) rfl (Nat.le_of_ble_eq_true rfl) rfl ⟨rfl, rfl⟩ rfl ?_
  refine r_iload_n 161 rfl 3 dX10_days_160 rfl rfl ?_
  refine r_if_ne 164 169 rfl dX10_days_161 rfl (fun c161 => ?_) (fun c161 => ?_)
  · replace c161 : ¬ w = 0 := fun q__ => c161 ((nI_eq (a := w) (b := 0) (by omega) (by omega)).mpr q__)
    refine r_aload_n 170 rfl 0 dX10_days_169 rfl rfl ?_
    refine r_getf (v := .int (m4 37 22)) (k := 22) 173 rfl dX10_days_170 (gf_X10_209_10 rfl) rfl rfl ?_
    rw [show m4 37 22 = nI (dS s H) from e22]
    refine r_ireturn rfl dX10_days_173 (Nat.le_of_ble_eq_true rfl) (Nat.le_of_ble_eq_true rfl) ?_
    rw [if_neg (by omega)] at k
    refine k _ h42' (fun j j22 => ?_) (fun x hx => ?_)
    · show (upd (upd (upd (m4 37) 5 (m1 37 5)) 3 (m1 37 3)) 4 (m1 37 4)) j = _
      unfold upd
      by_cases j4 : j = 4
      · rw [if_pos j4, j4, hag1 37 (by decide)]
      · by_cases j3 : j = 3
        · rw [if_neg j4, if_pos j3, j3, hag1 37 (by decide)]
        · by_cases j5 : j = 5
          · rw [if_neg j4, if_neg j3, if_pos j5, j5, hag1 37 (by decide)]
          · rw [if_neg j4, if_neg j3, if_neg j5, hag4 37 (by decide), h37 j j3 j4 j5 j22, va_up_self]
            unfold upd; rw [if_neg j22, hag1 37 (by decide)]
    · have hx' := hx
      simp only [List.mem_cons, List.not_mem_nil, or_false, not_or] at hx'
      obtain ⟨x1, x2, x3, x4, x5, x6⟩ := hx'
      simp only [va_up, if_neg x1]
      rw [hag4 x (by simp [x2]), hag3 x (by simp [x1, x2, x3, x4, x5]), va_up_ne _ _ x1, hag1 x (by simp [x6])]
  · replace c161 : w = 0 := (nI_eq (a := w) (b := 0) (by omega) (by omega)).mp c161
    refine r_iload 166 rfl dX10_days_164 rfl ?_
    refine r_goto 173 dX10_days_166 rfl ?_
    refine r_ireturn rfl dX10_days_173 (Nat.le_of_ble_eq_true rfl) (Nat.le_of_ble_eq_true rfl) ?_
    rw [if_pos (by omega)] at k
    refine k _ h42' (fun j j22 => ?_) (fun x hx => ?_)
    · show (upd (upd (upd (m4 37) 5 (m1 37 5)) 3 (m1 37 3)) 4 (m1 37 4)) j = _
      unfold upd
      by_cases j4 : j = 4
      · rw [if_pos j4, j4, hag1 37 (by decide)]
      · by_cases j3 : j = 3
        · rw [if_neg j4, if_pos j3, j3, hag1 37 (by decide)]
        · by_cases j5 : j = 5
          · rw [if_neg j4, if_neg j3, if_pos j5, j5, hag1 37 (by decide)]
          · rw [if_neg j4, if_neg j3, if_neg j5, hag4 37 (by decide), h37 j j3 j4 j5 j22, va_up_self]
            unfold upd; rw [if_neg j22, hag1 37 (by decide)]
    · have hx' := hx
      simp only [List.mem_cons, List.not_mem_nil, or_false, not_or] at hx'
      obtain ⟨x1, x2, x3, x4, x5, x6⟩ := hx'
      simp only [va_up, if_neg x1]
      rw [hag4 x (by simp [x2]), hag3 x (by simp [x1, x2, x3, x4, x5]), va_up_ne _ _ x1, hag1 x (by simp [x6])]

set_option maxHeartbeats 4000000 in
set_option maxRecDepth 20000 in
theorem P_days {i : Nat} {z : am_Z} {m : Nat → Nat → Int32} {n : Nat} {D K : Nat → Nat → Nat} (hI : IV i z m n D K) (hi : i + 5 ≤ 2560) (x : Int32) (y : Int32) (u : Int32) : AW mX9_days (PR (i + 5) mX10_days [.ref 37, .int x, .int y, .int u]) 0 (am_ent (am_l mX9_days) [.ref 1, .int x, .int y, .int u]) [] (wd z m) n 0 0 := by
  obtain ⟨h9, h10, hnz, hpg, hop, hnw, hct, him⟩ := id hI
  obtain ⟨hg, hfd, hf3, hf0, hns, hn6, hsd, hsb, hwi, hw4, hfr, hr1, hhr, hh⟩ := id h9
  obtain ⟨gg, gfd, gf3, gf0, gns, gn7, gmr, gwi, gw4, gfr, gr1, ghr, gh⟩ := id h10
  have hB := BD_le (CT_BD hct h9) (show 100 ≤ 1000 by decide)
  by_cases hx : x.toInt < 1 ∨ 60 < x.toInt
  · exact c9_days_o1 hx (PR_i (fun Q2 k => c10_days_o1 hx (k _ _ _ _ _ (IV_mono hI (by omega) hi))))
  · obtain ⟨H, hH, rfl⟩ := (i_cases x 61 (by decide)).resolve_left (by omega)
    rw [nI_toInt (by omega)] at hx
    by_cases hy : y.toInt < 0
    · exact c9_days_o2 (by omega) (by omega) hy (PR_i (fun Q2 k => c10_days_o2 (by omega) (by omega) hy (k _ _ _ _ _ (IV_mono hI (by omega) hi))))
    · obtain ⟨s, hs, rfl⟩ : ∃ s, s < 2 ^ 31 ∧ y = nI s := by
        have hlt := Int32.toInt_lt y
        refine ⟨y.toInt.toNat, by omega, ?_⟩
        apply Int32.toInt_inj.mp
        rw [nI_toInt (by omega)]
        omega
      rcases i_cases u 2 (by decide) with hu | ⟨w, hw, rfl⟩
      · exact c9_days_o3 (by omega) (by omega) hs hu (PR_i (fun Q2 k => c10_days_o3 (by omega) (by omega) hs hu (k _ _ _ _ _ (IV_mono hI (by omega) hi))))
      · by_cases hf : D 7 0 = 0
        · exact c9_days_s (by omega) (by omega) hs (by omega) (by rw [hfd, hf]) (PR_i (fun Q2 k => c10_days_s (by omega) (by omega) hs (by omega) (by rw [gfd, hf]) (k _ _ _ _ _ (IV_mono hI (by omega) hi))))
        · refine c9_days_t h9 (by omega) hnw.2.2.2 hB (by omega) (by omega) hs (by omega) (fun m1 hag => PR_i (fun Q2 k => ?_))
          have hI1 := IV_ag hI (ag_w hag (by decide))
          exact c10_days_t hI1.2.1 (by omega) hB (by omega) (by omega) hs (by omega) (fun m2 h42 h37 hag2 => k _ _ _ _ _ (IV_mono (IV_ag2 hI1 (ag_w hag2 (by decide)) h37 (fun j hj => h42 j (by omega))) (by omega) hi))
