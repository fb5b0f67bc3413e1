theorem ag_1 {a : Nat} {f : Nat → Int32} {m m' : Nat → Nat → Int32} (h : ag [a] m m') (ha : m' a = f) : m' = va_up m a f := by
  funext k
  by_cases h1 : k = a
  · subst h1; rw [va_up_self, ha]
  · rw [va_up_ne _ _ h1]; exact h k (by simp [h1])
theorem ag_2 {a b : Nat} {f g : Nat → Int32} {m m' : Nat → Nat → Int32} (h : ag [a, b] m m') (ha : m' a = f) (hb : m' b = g) : m' = va_up (va_up m a f) b g := by
  funext k
  by_cases h2 : k = b
  · subst h2; rw [va_up_self, hb]
  · rw [va_up_ne _ _ h2]
    by_cases h1 : k = a
    · subst h1; rw [va_up_self, ha]
    · rw [va_up_ne _ _ h1]; exact h k (by simp [h1, h2])
theorem nz_b {b : Nat} (hb : b ≤ 1) : narrow .boolean (.int (nI b)) = .int (nI b) := by
  rcases (show b = 0 ∨ b = 1 by omega) with rfl | rfl <;> rfl
theorem fz_b {b : Nat} (hb : b ≤ 1) : fits .boolean (.int (nI b)) = true := by
  rcases (show b = 0 ∨ b = 1 by omega) with rfl | rfl <;> rfl
theorem upd_c {f g : Nat → Int32} {c j : Nat} {v : Int32} (h : f j = g j) : upd f c v j = upd g c v j := by
  unfold upd
  by_cases hj : j = c
  · rw [if_pos hj, if_pos hj]
  · rw [if_neg hj, if_neg hj, h]

set_option maxHeartbeats 4000000 in
set_option maxRecDepth 20000 in
theorem c9_wind_o {Q : am_P} {z : am_Z} {m : Nat → Nat → Int32} {n : Nat} {x : Int32} (hx : x.toInt < 0 ∨ 5 ≤ x.toInt) (k : Q (some (.int (-102))) (wd z m) n) : AW mX9_wind Q 0 (am_ent (am_l mX9_wind) [.ref 1, .int x]) [] (wd z m) n 0 0 := by
  show AW _ _ 0 [some (.ref 1), some (.int x), none] [] _ _ 0 0
  refine r_iload_n 1 rfl 1 dX9_wind_0 rfl rfl ?_
  refine r_if_lt 4 9 rfl dX9_wind_1 rfl (fun c1 => ?_) (fun c1 => ?_)
  · replace c1 : x.toInt < (0 : Int) := Int32.lt_iff_toInt_lt.mp c1
    refine r_bipush 11 rfl (-102) dX9_wind_9 (by decide) ?_
    refine r_ireturn rfl dX9_wind_11 (Nat.le_of_ble_eq_true rfl) (Nat.le_of_ble_eq_true rfl) ?_
    exact k
  · replace c1 : ¬ x.toInt < (0 : Int) := fun q__ => c1 (Int32.lt_iff_toInt_lt.mpr q__)
    refine r_iload_n 5 rfl 1 dX9_wind_4 rfl rfl ?_
    refine r_iconst 6 rfl 4 dX9_wind_5 rfl ?_
    refine r_icmp_le 9 12 rfl dX9_wind_6 rfl (fun c6 => ?_) (fun c6 => ?_)
    · replace c6 : x.toInt ≤ (4 : Int) := Int32.le_iff_toInt_le.mp c6
      exfalso; omega
    · replace c6 : ¬ x.toInt ≤ (4 : Int) := fun q__ => c6 (Int32.le_iff_toInt_le.mpr q__)
      refine r_bipush 11 rfl (-102) dX9_wind_9 (by decide) ?_
      refine r_ireturn rfl dX9_wind_11 (Nat.le_of_ble_eq_true rfl) (Nat.le_of_ble_eq_true rfl) ?_
      exact k

set_option maxHeartbeats 4000000 in
set_option maxRecDepth 20000 in
theorem c9_wind_s {Q : am_P} {z : am_Z} {m : Nat → Nat → Int32} {n : Nat} {w : Nat} (hw : w < 5) (hfd : m 4 2 = nI 0) (k : Q (some (.int (-103))) (wd z m) n) : AW mX9_wind Q 0 (am_ent (am_l mX9_wind) [.ref 1, .int (nI w)]) [] (wd z m) n 0 0 := by
  show AW _ _ 0 [some (.ref 1), some (.int (nI w)), none] [] _ _ 0 0
  refine r_iload_n 1 rfl 1 dX9_wind_0 rfl rfl ?_
  refine r_if_lt 4 9 rfl dX9_wind_1 rfl (fun q__ => absurd q__ (fun q__ => absurd ((nI_ltI (a := w) (b := 0) (by omega) (by omega)).mp q__) (by omega))) (fun _ => ?_)
  refine r_iload_n 5 rfl 1 dX9_wind_4 rfl rfl ?_
  refine r_iconst 6 rfl 4 dX9_wind_5 rfl ?_
  refine r_icmp_le 9 12 rfl dX9_wind_6 rfl (fun _ => ?_) (fun q__ => absurd ((nI_leI (a := w) (b := 4) (by omega) (by omega)).mpr (by omega)) q__)
  refine r_aload_n 13 rfl 0 dX9_wind_12 rfl rfl ?_
  refine r_getf (v := .ref 4) (k := 1) 16 rfl dX9_wind_13 (gf_X9_19_9 rfl) rfl rfl ?_
  refine q_V 19 0 0 rfl [] rfl dX9_wind_16 cl_X9_wind__X7_isThere (lk_X9_171 rfl) im_X7_isThere (ci := 7) rfl sl_X7__X7_isThere rfl (Nat.le_of_ble_eq_true rfl) (fun _ _ => Nat.le_of_ble_eq_true rfl) rfl rfl (Nat.le_of_ble_eq_true rfl) (Nat.le_of_ble_eq_true rfl) ?_
  refine c_isThere_f hfd (k_i ?_)
  refine r_if_ne 22 25 rfl dX9_wind_19 rfl (fun q__ => absurd (by decide) q__) (fun _ => ?_)
  refine r_bipush 24 rfl (-103) dX9_wind_22 (by decide) ?_
  refine r_ireturn rfl dX9_wind_24 (Nat.le_of_ble_eq_true rfl) (Nat.le_of_ble_eq_true rfl) ?_
  exact k

set_option maxHeartbeats 4000000 in
set_option maxRecDepth 20000 in
theorem c9_wind_t {Q : am_P} {z : am_Z} {m : Nat → Nat → Int32} {n : Nat} {w : Nat} (hw : w < 5) {fd : Nat} (hfd : m 4 2 = nI fd) (hf1 : 1 ≤ fd) (hf3 : fd ≤ 3) (k : Q (some (.int (m 7 3))) (wd z (va_up m 7 (upd (m 7) 3 (nI w)))) n) : AW mX9_wind Q 0 (am_ent (am_l mX9_wind) [.ref 1, .int (nI w)]) [] (wd z m) n 0 0 := by
  show AW _ _ 0 [some (.ref 1), some (.int (nI w)), none] [] _ _ 0 0
  refine r_iload_n 1 rfl 1 dX9_wind_0 rfl rfl ?_
  refine r_if_lt 4 9 rfl dX9_wind_1 rfl (fun q__ => absurd q__ (fun q__ => absurd ((nI_ltI (a := w) (b := 0) (by omega) (by omega)).mp q__) (by omega))) (fun _ => ?_)
  refine r_iload_n 5 rfl 1 dX9_wind_4 rfl rfl ?_
  refine r_iconst 6 rfl 4 dX9_wind_5 rfl ?_
  refine r_icmp_le 9 12 rfl dX9_wind_6 rfl (fun _ => ?_) (fun q__ => absurd ((nI_leI (a := w) (b := 4) (by omega) (by omega)).mpr (by omega)) q__)
  refine r_aload_n 13 rfl 0 dX9_wind_12 rfl rfl ?_
  refine r_getf (v := .ref 4) (k := 1) 16 rfl dX9_wind_13 (gf_X9_19_9 rfl) rfl rfl ?_
  refine q_V 19 0 0 rfl [] rfl dX9_wind_16 cl_X9_wind__X7_isThere (lk_X9_171 rfl) im_X7_isThere (ci := 7) rfl sl_X7__X7_isThere rfl (Nat.le_of_ble_eq_true rfl) (fun _ _ => Nat.le_of_ble_eq_true rfl) rfl rfl (Nat.le_of_ble_eq_true rfl) (Nat.le_of_ble_eq_true rfl) ?_
  refine c_isThere_t hfd hf1 hf3 (k_i ?_)
  refine r_if_ne 22 25 rfl dX9_wind_19 rfl (fun _ => ?_) (fun q__ => absurd q__ (by decide))
  refine r_aload_n 26 rfl 0 dX9_wind_25 rfl rfl ?_
  refine r_getf (v := .ref 7) (k := 3) 29 rfl dX9_wind_26 (gf_X9_32_9 rfl) rfl rfl ?_
  refine r_getf (v := .int ((m 7) 3)) (k := 3) 32 rfl dX9_wind_29 (gf_X9_153_5 rfl) rfl rfl ?_
  refine r_istore_n 33 rfl 2 [some (.ref 1), some (.int (nI w)), some (.int ((m 7) 3))] dX9_wind_32 rfl (by decide) rfl ?_
  refine r_aload_n 34 rfl 0 dX9_wind_33 rfl rfl ?_
  refine r_getf (v := .ref 7) (k := 3) 37 rfl dX9_wind_34 (gf_X9_32_9 rfl) rfl rfl ?_
  refine r_iload_n 38 rfl 1 dX9_wind_37 rfl rfl ?_
  refine w_putf 41 rfl (k := 3) (va_up m 7 (upd (m 7) 3 (nI w))) dX9_wind_38 (pf_X9_153_5 rfl) (by decide) (by decide) rfl (Nat.le_of_ble_eq_true rfl) rfl ⟨rfl, rfl⟩ rfl ?_
  refine r_iload_n 42 rfl 2 dX9_wind_41 rfl rfl ?_
  refine r_ireturn rfl dX9_wind_42 (Nat.le_of_ble_eq_true rfl) (Nat.le_of_ble_eq_true rfl) ?_
  exact k

set_option maxHeartbeats 4000000 in
set_option maxRecDepth 20000 in
theorem c10_wind_o {Q : am_P} {z : am_Z} {m : Nat → Nat → Int32} {n : Nat} {x : Int32} (hx : x.toInt < 0 ∨ 5 ≤ x.toInt) (k : Q (some (.int (-102))) (wd z m) n) : AW mX10_wind Q 0 (am_ent (am_l mX10_wind) [.ref 37, .int x]) [] (wd z m) n 0 0 := by
  show AW _ _ 0 [some (.ref 37), some (.int x), none] [] _ _ 0 0
  refine r_iload_n 1 rfl 1 dX10_wind_0 rfl rfl ?_
  refine r_i2l 2 rfl dX10_wind_1 ?_
  refine r_lconst 3 rfl 0 dX10_wind_2 rfl ?_
  refine r_ldc2 6 rfl 4 dX10_wind_3 (cn_X10_113 rfl) ?_
  refine q_S 9 0 0 rfl [.long x.toInt64, .long 0, .long 4] rfl dX10_wind_6 cl_X10_wind__X10_in (lk_X10_64 rfl) st_X10_in (Nat.le_of_ble_eq_true rfl) (fun _ _ => Nat.le_of_ble_eq_true rfl) rfl rfl (Nat.le_of_ble_eq_true rfl) (Nat.le_of_ble_eq_true rfl) ?_
  refine c_in_f (show x.toInt64.toInt < (0 : Int) ∨ (4 : Int) < x.toInt64.toInt by rw [Int32.toInt_toInt64]; omega) (k_i ?_)
  refine r_if_ne 12 15 rfl dX10_wind_9 rfl (fun q__ => absurd (by decide) q__) (fun _ => ?_)
  refine r_bipush 14 rfl (-102) dX10_wind_12 (by decide) ?_
  refine r_ireturn rfl dX10_wind_14 (Nat.le_of_ble_eq_true rfl) (Nat.le_of_ble_eq_true rfl) ?_
  exact k

set_option maxHeartbeats 4000000 in
set_option maxRecDepth 20000 in
theorem c10_wind_s {Q : am_P} {z : am_Z} {m : Nat → Nat → Int32} {n : Nat} {w : Nat} (hw : w < 5) (hfd : m 37 2 = nI 0) (k : Q (some (.int (-103))) (wd z m) n) : AW mX10_wind Q 0 (am_ent (am_l mX10_wind) [.ref 37, .int (nI w)]) [] (wd z m) n 0 0 := by
  show AW _ _ 0 [some (.ref 37), some (.int (nI w)), none] [] _ _ 0 0
  refine r_iload_n 1 rfl 1 dX10_wind_0 rfl rfl ?_
  refine r_i2l 2 rfl dX10_wind_1 ?_
  refine r_lconst 3 rfl 0 dX10_wind_2 rfl ?_
  refine r_ldc2 6 rfl 4 dX10_wind_3 (cn_X10_113 rfl) ?_
  refine q_S 9 0 0 rfl [.long ((nI w).toInt64), .long 0, .long 4] rfl dX10_wind_6 cl_X10_wind__X10_in (lk_X10_64 rfl) st_X10_in (Nat.le_of_ble_eq_true rfl) (fun _ _ => Nat.le_of_ble_eq_true rfl) rfl rfl (Nat.le_of_ble_eq_true rfl) (Nat.le_of_ble_eq_true rfl) ?_
  refine c_in_t (show (0 : Int) ≤ (nI w).toInt64.toInt by rw [Int32.toInt_toInt64, nI_toInt (by omega)]; omega) (show (nI w).toInt64.toInt ≤ (4 : Int) by rw [Int32.toInt_toInt64, nI_toInt (by omega)]; omega) (k_i ?_)
  refine r_if_ne 12 15 rfl dX10_wind_9 rfl (fun _ => ?_) (fun q__ => absurd q__ (by decide))
  refine r_aload_n 16 rfl 0 dX10_wind_15 rfl rfl ?_
  refine q_V 19 0 0 rfl [] rfl dX10_wind_16 cl_X10_wind__X10_lacks (lk_X10_109 rfl) im_X10_lacks (ci := 10) rfl sl_X10__X10_lacks rfl (Nat.le_of_ble_eq_true rfl) (fun _ _ => Nat.le_of_ble_eq_true rfl) rfl rfl (Nat.le_of_ble_eq_true rfl) (Nat.le_of_ble_eq_true rfl) ?_
  refine c_lacks_t hfd (k_i ?_)
  refine r_if_eq 22 25 rfl dX10_wind_19 rfl (fun q__ => absurd q__ (by decide)) (fun _ => ?_)
  refine r_bipush 24 rfl (-103) dX10_wind_22 (by decide) ?_
  refine r_ireturn rfl dX10_wind_24 (Nat.le_of_ble_eq_true rfl) (Nat.le_of_ble_eq_true rfl) ?_
  exact k

set_option maxHeartbeats 4000000 in
set_option maxRecDepth 20000 in
theorem c10_wind_t {Q : am_P} {z : am_Z} {m : Nat → Nat → Int32} {n : Nat} {w : Nat} (hw : w < 5) {fd : Nat} (hfd : m 37 2 = nI fd) (hf1 : 1 ≤ fd) (hf3 : fd ≤ 3) (k : Q (some (.int (m 37 3))) (wd z (va_up m 37 (upd (m 37) 3 (nI w)))) n) : AW mX10_wind Q 0 (am_ent (am_l mX10_wind) [.ref 37, .int (nI w)]) [] (wd z m) n 0 0 := by
  show AW _ _ 0 [some (.ref 37), some (.int (nI w)), none] [] _ _ 0 0
  refine r_iload_n 1 rfl 1 dX10_wind_0 rfl rfl ?_
  refine r_i2l 2 rfl dX10_wind_1 ?_
  refine r_lconst 3 rfl 0 dX10_wind_2 rfl ?_
  refine r_ldc2 6 rfl 4 dX10_wind_3 (cn_X10_113 rfl) ?_
  refine q_S 9 0 0 rfl [.long ((nI w).toInt64), .long 0, .long 4] rfl dX10_wind_6 cl_X10_wind__X10_in (lk_X10_64 rfl) st_X10_in (Nat.le_of_ble_eq_true rfl) (fun _ _ => Nat.le_of_ble_eq_true rfl) rfl rfl (Nat.le_of_ble_eq_true rfl) (Nat.le_of_ble_eq_true rfl) ?_
  refine c_in_t (show (0 : Int) ≤ (nI w).toInt64.toInt by rw [Int32.toInt_toInt64, nI_toInt (by omega)]; omega) (show (nI w).toInt64.toInt ≤ (4 : Int) by rw [Int32.toInt_toInt64, nI_toInt (by omega)]; omega) (k_i ?_)
  refine r_if_ne 12 15 rfl dX10_wind_9 rfl (fun _ => ?_) (fun q__ => absurd q__ (by decide))
  refine r_aload_n 16 rfl 0 dX10_wind_15 rfl rfl ?_
  refine q_V 19 0 0 rfl [] rfl dX10_wind_16 cl_X10_wind__X10_lacks (lk_X10_109 rfl) im_X10_lacks (ci := 10) rfl sl_X10__X10_lacks rfl (Nat.le_of_ble_eq_true rfl) (fun _ _ => Nat.le_of_ble_eq_true rfl) rfl rfl (Nat.le_of_ble_eq_true rfl) (Nat.le_of_ble_eq_true rfl) ?_
  refine c_lacks_f hfd hf1 hf3 (k_i ?_)
  refine r_if_eq 22 25 rfl dX10_wind_19 rfl (fun _ => ?_) (fun q__ => absurd (by decide) q__)
  refine r_aload_n 26 rfl 0 dX10_wind_25 rfl rfl ?_
  refine r_getf (v := .int ((m 37) 3)) (k := 3) 29 rfl dX10_wind_26 (gf_X10_86_10 rfl) rfl rfl ?_
  refine r_istore_n 30 rfl 2 [some (.ref 37), some (.int (nI w)), some (.int ((m 37) 3))] dX10_wind_29 rfl (by decide) rfl ?_
  refine r_aload_n 31 rfl 0 dX10_wind_30 rfl rfl ?_
  refine r_iload_n 32 rfl 1 dX10_wind_31 rfl rfl ?_
  refine w_putf 35 rfl (k := 3) (va_up m 37 (upd (m 37) 3 (nI w))) dX10_wind_32 (pf_X10_86_10 rfl) (by decide) (by decide) rfl (Nat.le_of_ble_eq_true rfl) rfl ⟨rfl, rfl⟩ rfl ?_
  refine r_iload_n 36 rfl 2 dX10_wind_35 rfl rfl ?_
  refine r_ireturn rfl dX10_wind_36 (Nat.le_of_ble_eq_true rfl) (Nat.le_of_ble_eq_true rfl) ?_
  exact k

set_option maxHeartbeats 4000000 in
set_option maxRecDepth 20000 in
theorem P_wind {i : Nat} {z : am_Z} {m : Nat → Nat → Int32} {n : Nat} {D K : Nat → Nat → Nat} (hI : IV i z m n D K) (hi : i + 5 ≤ 2560) (x : Int32) : AW mX9_wind (PR (i + 5) mX10_wind [.ref 37, .int x]) 0 (am_ent (am_l mX9_wind) [.ref 1, .int x]) [] (wd z m) n 0 0 := by
  obtain ⟨h9, h10, hnz, hpg, hop, hnw, hct, him⟩ := id hI
  obtain ⟨hg, hfd, hf3, hf0, hns, hn6, hsd, hsb, hwi, hw4, hfr, hr1, hhr, hh⟩ := id h9
  obtain ⟨gg, gfd, gf3, gf0, gns, gn7, gmr, gwi, gw4, gfr, gr1, ghr, gh⟩ := id h10
  rcases i_cases x 5 (by decide) with hx | ⟨w, hw, rfl⟩
  · exact c9_wind_o hx (PR_i (fun Q2 k => c10_wind_o hx (k _ _ _ _ _ (IV_mono hI (by omega) hi))))
  · by_cases hf : D 7 0 = 0
    · exact c9_wind_s hw (by rw [hfd, hf]) (PR_i (fun Q2 k => c10_wind_s hw (by rw [gfd, hf]) (k _ _ _ _ _ (IV_mono hI (by omega) hi))))
    · refine c9_wind_t hw hfd (by omega) hf3 (PR_i (fun Q2 k => ?_))
      refine c10_wind_t hw gfd (by omega) gf3 ?_
      have e : m 37 3 = m 7 3 := gwi.trans hwi.symm
      show Q2 (some (.int (m 37 3))) _ _
      rw [e]
      exact k _ _ _ (va_up D 7 (va_up (D 7) 2 w)) K ⟨⟨hg, hfd, hf3, hf0, hns, hn6, hsd, hsb, rfl, (show w ≤ 4 by omega), hfr, hr1, hhr, hh⟩, ⟨gg, gfd, gf3, gf0, gns, gn7, gmr, rfl, (show w ≤ 4 by omega), gfr, gr1, ghr, gh⟩, hnz, hpg, hop, hnw, CT_mono hct (by omega) hi, IM_mono him (by omega)⟩

set_option maxHeartbeats 4000000 in
set_option maxRecDepth 20000 in
theorem c9_frost_s {Q : am_P} {z : am_Z} {m : Nat → Nat → Int32} {n : Nat} {b : Nat} (hb : b ≤ 1)(hfd : m 4 2 = nI 0) (k : Q (some (.int (-103))) (wd z m) n) : AW mX9_frost Q 0 (am_ent (am_l mX9_frost) [.ref 1, .int (nI b)]) [] (wd z m) n 0 0 := by
  show AW _ _ 0 [some (.ref 1), some (.int (nI b)), none] [] _ _ 0 0
  refine r_aload_n 1 rfl 0 dX9_frost_0 rfl rfl ?_
  refine r_getf (v := .ref 4) (k := 1) 4 rfl dX9_frost_1 (gf_X9_19_9 rfl) rfl rfl ?_
  refine q_V 7 0 0 rfl [] rfl dX9_frost_4 cl_X9_frost__X7_isThere (lk_X9_171 rfl) im_X7_isThere (ci := 7) rfl sl_X7__X7_isThere rfl (Nat.le_of_ble_eq_true rfl) (fun _ _ => Nat.le_of_ble_eq_true rfl) rfl rfl (Nat.le_of_ble_eq_true rfl) (Nat.le_of_ble_eq_true rfl) ?_
  refine c_isThere_f hfd (k_i ?_)
  refine r_if_ne 10 13 rfl dX9_frost_7 rfl (fun q__ => absurd (by decide) q__) (fun _ => ?_)
  refine r_bipush 12 rfl (-103) dX9_frost_10 (by decide) ?_
  refine r_ireturn rfl dX9_frost_12 (Nat.le_of_ble_eq_true rfl) (Nat.le_of_ble_eq_true rfl) ?_
  exact k

set_option maxHeartbeats 4000000 in
set_option maxRecDepth 20000 in
theorem c9_frost_t {Q : am_P} {z : am_Z} {m : Nat → Nat → Int32} {n : Nat} {b : Nat} (hb : b ≤ 1) {fr : Nat} (hfr : m 7 4 = nI fr) (hr1 : fr ≤ 1){fd : Nat} (hfd : m 4 2 = nI fd) (hf1 : 1 ≤ fd) (hf3 : fd ≤ 3) (k : Q (some (.int (nI fr))) (wd z (va_up m 7 (upd (m 7) 4 (nI b)))) n) : AW mX9_frost Q 0 (am_ent (am_l mX9_frost) [.ref 1, .int (nI b)]) [] (wd z m) n 0 0 := by
  show AW _ _ 0 [some (.ref 1), some (.int (nI b)), none] [] _ _ 0 0
  refine r_aload_n 1 rfl 0 dX9_frost_0 rfl rfl ?_
  refine r_getf (v := .ref 4) (k := 1) 4 rfl dX9_frost_1 (gf_X9_19_9 rfl) rfl rfl ?_
  refine q_V 7 0 0 rfl [] rfl dX9_frost_4 cl_X9_frost__X7_isThere (lk_X9_171 rfl) im_X7_isThere (ci := 7) rfl sl_X7__X7_isThere rfl (Nat.le_of_ble_eq_true rfl) (fun _ _ => Nat.le_of_ble_eq_true rfl) rfl rfl (Nat.le_of_ble_eq_true rfl) (Nat.le_of_ble_eq_true rfl) ?_
  refine c_isThere_t hfd hf1 hf3 (k_i ?_)
  refine r_if_ne 10 13 rfl dX9_frost_7 rfl (fun _ => ?_) (fun q__ => absurd q__ (by decide))
  refine r_aload_n 14 rfl 0 dX9_frost_13 rfl rfl ?_
  refine r_getf (v := .ref 7) (k := 3) 17 rfl dX9_frost_14 (gf_X9_32_9 rfl) rfl rfl ?_
  refine r_getf (v := .int ((m 7) 4)) (k := 4) 20 rfl dX9_frost_17 (gf_X9_174_5 rfl) rfl rfl ?_
  rw [show (m 7) 4 = nI fr from hfr]
  refine r_istore_n 21 rfl 2 [some (.ref 1), some (.int (nI b)), some (.int (nI fr))] dX9_frost_20 rfl (by decide) rfl ?_
  refine r_aload_n 22 rfl 0 dX9_frost_21 rfl rfl ?_
  refine r_getf (v := .ref 7) (k := 3) 25 rfl dX9_frost_22 (gf_X9_32_9 rfl) rfl rfl ?_
  refine r_iload_n 26 rfl 1 dX9_frost_25 rfl rfl ?_
  refine w_putf 29 rfl (k := 4) (va_up m 7 (upd (m 7) 4 (nI b))) dX9_frost_26 (pf_X9_174_5 rfl) (by decide) (by decide) rfl (Nat.le_of_ble_eq_true rfl) rfl ⟨nz_b hb, fz_b hb⟩ rfl ?_
  refine r_iload_n 30 rfl 2 dX9_frost_29 rfl rfl ?_
  refine q_S 33 0 0 rfl [.int (nI fr)] rfl dX9_frost_30 cl_X9_frost__X9_bit (lk_X9_167 rfl) st_X9_bit (Nat.le_of_ble_eq_true rfl) (fun _ _ => Nat.le_of_ble_eq_true rfl) rfl rfl (Nat.le_of_ble_eq_true rfl) (Nat.le_of_ble_eq_true rfl) ?_
  refine c_bit hr1 (k_i ?_)
  refine r_ireturn rfl dX9_frost_33 (Nat.le_of_ble_eq_true rfl) (Nat.le_of_ble_eq_true rfl) ?_
  exact k

set_option maxHeartbeats 4000000 in
set_option maxRecDepth 20000 in
theorem c10_frost_s {Q : am_P} {z : am_Z} {m : Nat → Nat → Int32} {n : Nat} {b : Nat} (hb : b ≤ 1)(hfd : m 37 2 = nI 0) (k : Q (some (.int (-103))) (wd z m) n) : AW mX10_frost Q 0 (am_ent (am_l mX10_frost) [.ref 37, .int (nI b)]) [] (wd z m) n 0 0 := by
  show AW _ _ 0 [some (.ref 37), some (.int (nI b)), none] [] _ _ 0 0
  refine r_aload_n 1 rfl 0 dX10_frost_0 rfl rfl ?_
  refine q_V 4 0 0 rfl [] rfl dX10_frost_1 cl_X10_frost__X10_lacks (lk_X10_109 rfl) im_X10_lacks (ci := 10) rfl sl_X10__X10_lacks rfl (Nat.le_of_ble_eq_true rfl) (fun _ _ => Nat.le_of_ble_eq_true rfl) rfl rfl (Nat.le_of_ble_eq_true rfl) (Nat.le_of_ble_eq_true rfl) ?_
  refine c_lacks_t hfd (k_i ?_)
  refine r_if_eq 7 10 rfl dX10_frost_4 rfl (fun q__ => absurd q__ (by decide)) (fun _ => ?_)
  refine r_bipush 9 rfl (-103) dX10_frost_7 (by decide) ?_
  refine r_ireturn rfl dX10_frost_9 (Nat.le_of_ble_eq_true rfl) (Nat.le_of_ble_eq_true rfl) ?_
  exact k

set_option maxHeartbeats 4000000 in
set_option maxRecDepth 20000 in
theorem c10_frost_t {Q : am_P} {z : am_Z} {m : Nat → Nat → Int32} {n : Nat} {b : Nat} (hb : b ≤ 1){fd : Nat} (hfd : m 37 2 = nI fd) (hf1 : 1 ≤ fd) (hf3 : fd ≤ 3) (k : Q (some (.int (m 37 4))) (wd z (va_up m 37 (upd (m 37) 4 (nI b)))) n) : AW mX10_frost Q 0 (am_ent (am_l mX10_frost) [.ref 37, .int (nI b)]) [] (wd z m) n 0 0 := by
  show AW _ _ 0 [some (.ref 37), some (.int (nI b)), none] [] _ _ 0 0
  refine r_aload_n 1 rfl 0 dX10_frost_0 rfl rfl ?_
  refine q_V 4 0 0 rfl [] rfl dX10_frost_1 cl_X10_frost__X10_lacks (lk_X10_109 rfl) im_X10_lacks (ci := 10) rfl sl_X10__X10_lacks rfl (Nat.le_of_ble_eq_true rfl) (fun _ _ => Nat.le_of_ble_eq_true rfl) rfl rfl (Nat.le_of_ble_eq_true rfl) (Nat.le_of_ble_eq_true rfl) ?_
  refine c_lacks_f hfd hf1 hf3 (k_i ?_)
  refine r_if_eq 7 10 rfl dX10_frost_4 rfl (fun _ => ?_) (fun q__ => absurd (by decide) q__)
  refine r_aload_n 11 rfl 0 dX10_frost_10 rfl rfl ?_
  refine r_getf (v := .int ((m 37) 4)) (k := 4) 14 rfl dX10_frost_11 (gf_X10_89_10 rfl) rfl rfl ?_
  refine r_istore_n 15 rfl 2 [some (.ref 37), some (.int (nI b)), some (.int ((m 37) 4))] dX10_frost_14 rfl (by decide) rfl ?_
  refine r_aload_n 16 rfl 0 dX10_frost_15 rfl rfl ?_
  refine r_iload_n 17 rfl 1 dX10_frost_16 rfl rfl ?_
  refine r_if_eq 20 24 rfl dX10_frost_17 rfl (fun c17 => ?_) (fun c17 => ?_)
  · replace c17 : b = 0 := (nI_eq (a := b) (b := 0) (by omega) (by omega)).mp c17
    obtain rfl : b = 0 := by omega
    refine r_iconst 25 rfl 0 dX10_frost_24 rfl ?_
    refine w_putf 28 rfl (k := 4) (va_up m 37 (upd (m 37) 4 0)) dX10_frost_25 (pf_X10_89_10 rfl) (by decide) (by decide) rfl (Nat.le_of_ble_eq_true rfl) rfl ⟨rfl, rfl⟩ rfl ?_
    refine r_iload_n 29 rfl 2 dX10_frost_28 rfl rfl ?_
    refine r_ireturn rfl dX10_frost_29 (Nat.le_of_ble_eq_true rfl) (Nat.le_of_ble_eq_true rfl) ?_
    exact k
  · replace c17 : ¬ b = 0 := fun q__ => c17 ((nI_eq (a := b) (b := 0) (by omega) (by omega)).mpr q__)
    obtain rfl : b = 1 := by omega
    refine r_iconst 21 rfl 1 dX10_frost_20 rfl ?_
    refine r_goto 25 dX10_frost_21 rfl ?_
    refine w_putf 28 rfl (k := 4) (va_up m 37 (upd (m 37) 4 1)) dX10_frost_25 (pf_X10_89_10 rfl) (by decide) (by decide) rfl (Nat.le_of_ble_eq_true rfl) rfl ⟨rfl, rfl⟩ rfl ?_
    refine r_iload_n 29 rfl 2 dX10_frost_28 rfl rfl ?_
    refine r_ireturn rfl dX10_frost_29 (Nat.le_of_ble_eq_true rfl) (Nat.le_of_ble_eq_true rfl) ?_
    exact k

set_option maxHeartbeats 4000000 in
set_option maxRecDepth 20000 in
theorem P_frost {i : Nat} {z : am_Z} {m : Nat → Nat → Int32} {n : Nat} {D K : Nat → Nat → Nat} (hI : IV i z m n D K) (hi : i + 5 ≤ 2560) {b : Nat} (hb : b ≤ 1) : AW mX9_frost (PR (i + 5) mX10_frost [.ref 37, .int (nI b)]) 0 (am_ent (am_l mX9_frost) [.ref 1, .int (nI b)]) [] (wd z m) n 0 0 := by
  obtain ⟨h9, h10, hnz, hpg, hop, hnw, hct, him⟩ := id hI
  obtain ⟨hg, hfd, hf3, hf0, hns, hn6, hsd, hsb, hwi, hw4, hfr, hr1, hhr, hh⟩ := id h9
  obtain ⟨gg, gfd, gf3, gf0, gns, gn7, gmr, gwi, gw4, gfr, gr1, ghr, gh⟩ := id h10
  by_cases hf : D 7 0 = 0
  · exact c9_frost_s hb (by rw [hfd, hf]) (PR_i (fun Q2 k => c10_frost_s hb (by rw [gfd, hf]) (k _ _ _ _ _ (IV_mono hI (by omega) hi))))
  · refine c9_frost_t hb hfr hr1 hfd (by omega) hf3 (PR_i (fun Q2 k => ?_))
    refine c10_frost_t hb gfd (by omega) gf3 ?_
    show Q2 (some (.int (m 37 4))) _ _
    rw [gfr]
    exact k _ _ _ (va_up D 7 (va_up (D 7) 4 b)) K ⟨⟨hg, hfd, hf3, hf0, hns, hn6, hsd, hsb, hwi, hw4, rfl, hb, hhr, hh⟩, ⟨gg, gfd, gf3, gf0, gns, gn7, gmr, gwi, gw4, rfl, hb, ghr, gh⟩, hnz, hpg, hop, hnw, CT_mono hct (by omega) hi, IM_mono him (by omega)⟩

set_option maxHeartbeats 4000000 in
set_option maxRecDepth 20000 in
theorem c9_people_n {Q : am_P} {z : am_Z} {m : Nat → Nat → Int32} {n : Nat} {D : Nat → Nat → Nat} (hC : C9 z m D){x : Int32} (hx : D 7 0 = 0 ∨ x.toInt < 0 ∨ 8 ≤ x.toInt) {y : Int32} (k : Q (some (.int (-101))) (wd z m) n) : AW mX9_people Q 0 (am_ent (am_l mX9_people) [.ref 1, .int x, .int y]) [] (wd z m) n 0 0 := by
  show AW _ _ 0 [some (.ref 1), some (.int x), some (.int y), none] [] _ _ 0 0
  obtain ⟨hg, hfd, hf3, hf0, hns, hn6, hsd, hsb, hwi, hw4, hfr, hr1, hhr, hh⟩ := id hC
  refine r_aload_n 1 rfl 0 dX9_people_0 rfl rfl ?_
  refine r_iload_n 2 rfl 1 dX9_people_1 rfl rfl ?_
  refine q_V 5 0 0 rfl [.int x] rfl dX9_people_2 cl_X9_people__X9_isCell (lk_X9_99 rfl) im_X9_isCell (ci := 9) rfl sl_X9__X9_isCell rfl (Nat.le_of_ble_eq_true rfl) (fun _ _ => Nat.le_of_ble_eq_true rfl) rfl rfl (Nat.le_of_ble_eq_true rfl) (Nat.le_of_ble_eq_true rfl) ?_
  refine c_isCell_f hfd hf3 hx (k_i ?_)
  refine r_if_ne 8 11 rfl dX9_people_5 rfl (fun q__ => absurd (by decide) q__) (fun _ => ?_)
  refine r_bipush 10 rfl (-101) dX9_people_8 (by decide) ?_
  refine r_ireturn rfl dX9_people_10 (Nat.le_of_ble_eq_true rfl) (Nat.le_of_ble_eq_true rfl) ?_
  exact k

set_option maxHeartbeats 4000000 in
set_option maxRecDepth 20000 in
theorem c9_people_o {Q : am_P} {z : am_Z} {m : Nat → Nat → Int32} {n : Nat} {D : Nat → Nat → Nat} (hC : C9 z m D){c : Nat} (hc : c < 8) (hf1 : 1 ≤ D 7 0){y : Int32} (hy : y.toInt < 0 ∨ 10 ≤ y.toInt) (k : Q (some (.int (-102))) (wd z m) n) : AW mX9_people Q 0 (am_ent (am_l mX9_people) [.ref 1, .int (nI c), .int y]) [] (wd z m) n 0 0 := by
  show AW _ _ 0 [some (.ref 1), some (.int (nI c)), some (.int y), none] [] _ _ 0 0
  obtain ⟨hg, hfd, hf3, hf0, hns, hn6, hsd, hsb, hwi, hw4, hfr, hr1, hhr, hh⟩ := id hC
  refine r_aload_n 1 rfl 0 dX9_people_0 rfl rfl ?_
  refine r_iload_n 2 rfl 1 dX9_people_1 rfl rfl ?_
  refine q_V 5 0 0 rfl [.int (nI c)] rfl dX9_people_2 cl_X9_people__X9_isCell (lk_X9_99 rfl) im_X9_isCell (ci := 9) rfl sl_X9__X9_isCell rfl (Nat.le_of_ble_eq_true rfl) (fun _ _ => Nat.le_of_ble_eq_true rfl) rfl rfl (Nat.le_of_ble_eq_true rfl) (Nat.le_of_ble_eq_true rfl) ?_
  refine c_isCell_t hc hfd hf1 hf3 (k_i ?_)
  refine r_if_ne 8 11 rfl dX9_people_5 rfl (fun _ => ?_) (fun q__ => absurd q__ (by decide))
  refine r_iload_n 12 rfl 2 dX9_people_11 rfl rfl ?_
  refine r_if_lt 15 21 rfl dX9_people_12 rfl (fun c12 => ?_) (fun c12 => ?_)
  · replace c12 : y.toInt < (0 : Int) := Int32.lt_iff_toInt_lt.mp c12
    refine r_bipush 23 rfl (-102) dX9_people_21 (by decide) ?_
    refine r_ireturn rfl dX9_people_23 (Nat.le_of_ble_eq_true rfl) (Nat.le_of_ble_eq_true rfl) ?_
    exact k
  · replace c12 : ¬ y.toInt < (0 : Int) := fun q__ => c12 (Int32.lt_iff_toInt_lt.mpr q__)
    refine r_iload_n 16 rfl 2 dX9_people_15 rfl rfl ?_
    refine r_bipush 18 rfl 9 dX9_people_16 (by decide) ?_
    refine r_icmp_le 21 24 rfl dX9_people_18 rfl (fun c18 => ?_) (fun c18 => ?_)
    · replace c18 : y.toInt ≤ (9 : Int) := Int32.le_iff_toInt_le.mp c18
      exfalso; omega
    · replace c18 : ¬ y.toInt ≤ (9 : Int) := fun q__ => c18 (Int32.le_iff_toInt_le.mpr q__)
      refine r_bipush 23 rfl (-102) dX9_people_21 (by decide) ?_
      refine r_ireturn rfl dX9_people_23 (Nat.le_of_ble_eq_true rfl) (Nat.le_of_ble_eq_true rfl) ?_
      exact k

set_option maxHeartbeats 4000000 in
set_option maxRecDepth 20000 in
theorem c9_people_s {Q : am_P} {z : am_Z} {m : Nat → Nat → Int32} {n : Nat} {D : Nat → Nat → Nat} (hC : C9 z m D){c : Nat} (hc : c < 8) (hf1 : 1 ≤ D 7 0){v : Nat} (hv : v < 10) (hv1 : D 0 c = 1) (k : Q (some (.int (-103))) (wd z m) n) : AW mX9_people Q 0 (am_ent (am_l mX9_people) [.ref 1, .int (nI c), .int (nI v)]) [] (wd z m) n 0 0 := by
  show AW _ _ 0 [some (.ref 1), some (.int (nI c)), some (.int (nI v)), none] [] _ _ 0 0
  obtain ⟨hg, hfd, hf3, hf0, hns, hn6, hsd, hsb, hwi, hw4, hfr, hr1, hhr, hh⟩ := id hC
  refine r_aload_n 1 rfl 0 dX9_people_0 rfl rfl ?_
  refine r_iload_n 2 rfl 1 dX9_people_1 rfl rfl ?_
  refine q_V 5 0 0 rfl [.int (nI c)] rfl dX9_people_2 cl_X9_people__X9_isCell (lk_X9_99 rfl) im_X9_isCell (ci := 9) rfl sl_X9__X9_isCell rfl (Nat.le_of_ble_eq_true rfl) (fun _ _ => Nat.le_of_ble_eq_true rfl) rfl rfl (Nat.le_of_ble_eq_true rfl) (Nat.le_of_ble_eq_true rfl) ?_
  refine c_isCell_t hc hfd hf1 hf3 (k_i ?_)
  refine r_if_ne 8 11 rfl dX9_people_5 rfl (fun _ => ?_) (fun q__ => absurd q__ (by decide))
  refine r_iload_n 12 rfl 2 dX9_people_11 rfl rfl ?_
  refine r_if_lt 15 21 rfl dX9_people_12 rfl (fun q__ => absurd q__ (fun q__ => absurd ((nI_ltI (a := v) (b := 0) (by omega) (by omega)).mp q__) (by omega))) (fun _ => ?_)
  refine r_iload_n 16 rfl 2 dX9_people_15 rfl rfl ?_
  refine r_bipush 18 rfl 9 dX9_people_16 (by decide) ?_
  refine r_icmp_le 21 24 rfl dX9_people_18 rfl (fun _ => ?_) (fun q__ => absurd ((nI_leI (a := v) (b := 9) (by omega) (by omega)).mpr (by omega)) q__)
  refine r_aload_n 25 rfl 0 dX9_people_24 rfl rfl ?_
  refine r_getf (v := .ref 4) (k := 1) 28 rfl dX9_people_25 (gf_X9_19_9 rfl) rfl rfl ?_
  refine r_iload_n 29 rfl 1 dX9_people_28 rfl rfl ?_
  refine q_V 32 0 0 rfl [.int (nI c)] rfl dX9_people_29 cl_X9_people__X7_isWall (lk_X9_177 rfl) im_X7_isWall (ci := 7) rfl sl_X7__X7_isWall rfl (Nat.le_of_ble_eq_true rfl) (fun _ _ => Nat.le_of_ble_eq_true rfl) rfl rfl (Nat.le_of_ble_eq_true rfl) (Nat.le_of_ble_eq_true rfl) ?_
  refine c_isWall_t hC hc hv1 (k_i ?_)
  refine r_if_eq 35 38 rfl dX9_people_32 rfl (fun q__ => absurd q__ (by decide)) (fun _ => ?_)
  refine r_bipush 37 rfl (-103) dX9_people_35 (by decide) ?_
  refine r_ireturn rfl dX9_people_37 (Nat.le_of_ble_eq_true rfl) (Nat.le_of_ble_eq_true rfl) ?_
  exact k

set_option maxHeartbeats 4000000 in
set_option maxRecDepth 20000 in
theorem c9_people_t {Q : am_P} {z : am_Z} {m : Nat → Nat → Int32} {n : Nat} {D : Nat → Nat → Nat} (hC : C9 z m D){c : Nat} (hc : c < 8) (hf1 : 1 ≤ D 7 0){v : Nat} (hv : v < 10) (hv1 : ¬ D 0 c = 1) (k : Q (some (.int (m 10 c))) (wd z (va_up m 10 (upd (m 10) c (nI v)))) n) : AW mX9_people Q 0 (am_ent (am_l mX9_people) [.ref 1, .int (nI c), .int (nI v)]) [] (wd z m) n 0 0 := by
  show AW _ _ 0 [some (.ref 1), some (.int (nI c)), some (.int (nI v)), none] [] _ _ 0 0
  obtain ⟨hg, hfd, hf3, hf0, hns, hn6, hsd, hsb, hwi, hw4, hfr, hr1, hhr, hh⟩ := id hC
  refine r_aload_n 1 rfl 0 dX9_people_0 rfl rfl ?_
  refine r_iload_n 2 rfl 1 dX9_people_1 rfl rfl ?_
  refine q_V 5 0 0 rfl [.int (nI c)] rfl dX9_people_2 cl_X9_people__X9_isCell (lk_X9_99 rfl) im_X9_isCell (ci := 9) rfl sl_X9__X9_isCell rfl (Nat.le_of_ble_eq_true rfl) (fun _ _ => Nat.le_of_ble_eq_true rfl) rfl rfl (Nat.le_of_ble_eq_true rfl) (Nat.le_of_ble_eq_true rfl) ?_
  refine c_isCell_t hc hfd hf1 hf3 (k_i ?_)
  refine r_if_ne 8 11 rfl dX9_people_5 rfl (fun _ => ?_) (fun q__ => absurd q__ (by decide))
  refine r_iload_n 12 rfl 2 dX9_people_11 rfl rfl ?_
  refine r_if_lt 15 21 rfl dX9_people_12 rfl (fun q__ => absurd q__ (fun q__ => absurd ((nI_ltI (a := v) (b := 0) (by omega) (by omega)).mp q__) (by omega))) (fun _ => ?_)
  refine r_iload_n 16 rfl 2 dX9_people_15 rfl rfl ?_
  refine r_bipush 18 rfl 9 dX9_people_16 (by decide) ?_
  refine r_icmp_le 21 24 rfl dX9_people_18 rfl (fun _ => ?_) (fun q__ => absurd ((nI_leI (a := v) (b := 9) (by omega) (by omega)).mpr (by omega)) q__)
  refine r_aload_n 25 rfl 0 dX9_people_24 rfl rfl ?_
  refine r_getf (v := .ref 4) (k := 1) 28 rfl dX9_people_25 (gf_X9_19_9 rfl) rfl rfl ?_
  refine r_iload_n 29 rfl 1 dX9_people_28 rfl rfl ?_
  refine q_V 32 0 0 rfl [.int (nI c)] rfl dX9_people_29 cl_X9_people__X7_isWall (lk_X9_177 rfl) im_X7_isWall (ci := 7) rfl sl_X7__X7_isWall rfl (Nat.le_of_ble_eq_true rfl) (fun _ _ => Nat.le_of_ble_eq_true rfl) rfl rfl (Nat.le_of_ble_eq_true rfl) (Nat.le_of_ble_eq_true rfl) ?_
  refine c_isWall_f hC hc hv1 (k_i ?_)
  refine r_if_eq 35 38 rfl dX9_people_32 rfl (fun _ => ?_) (fun q__ => absurd (by decide) q__)
  refine r_aload_n 39 rfl 0 dX9_people_38 rfl rfl ?_
  refine r_getf (v := .ref 7) (k := 3) 42 rfl dX9_people_39 (gf_X9_32_9 rfl) rfl rfl ?_
  refine r_getf (v := .ref 10) (k := 6) 45 rfl dX9_people_42 (gf_X9_180_5 rfl) rfl rfl ?_
  refine r_iload_n 46 rfl 1 dX9_people_45 rfl rfl ?_
  refine r_iald (f := m 10) 47 rfl c dX9_people_46 rfl rfl (by omega) (by decide) ?_
  refine r_istore_n 48 rfl 3 [some (.ref 1), some (.int (nI c)), some (.int (nI v)), some (.int ((m 10) c))] dX9_people_47 rfl (by decide) rfl ?_
  refine r_aload_n 49 rfl 0 dX9_people_48 rfl rfl ?_
  refine r_getf (v := .ref 7) (k := 3) 52 rfl dX9_people_49 (gf_X9_32_9 rfl) rfl rfl ?_
  refine r_getf (v := .ref 10) (k := 6) 55 rfl dX9_people_52 (gf_X9_180_5 rfl) rfl rfl ?_
  refine r_iload_n 56 rfl 1 dX9_people_55 rfl rfl ?_
  refine r_iload_n 57 rfl 2 dX9_people_56 rfl rfl ?_
  refine w_iast 58 rfl c (va_up m 10 (upd (m 10) c (nI v))) dX9_people_57 (by decide) (by decide) (fun _ => rfl) rfl (by omega) (by decide) rfl ?_
  refine r_iload_n 59 rfl 3 dX9_people_58 rfl rfl ?_
  refine r_ireturn rfl dX9_people_59 (Nat.le_of_ble_eq_true rfl) (Nat.le_of_ble_eq_true rfl) ?_
  exact k

set_option maxHeartbeats 4000000 in
set_option maxRecDepth 20000 in
theorem c10_people_n {Q : am_P} {z : am_Z} {m : Nat → Nat → Int32} {n : Nat} {D : Nat → Nat → Nat} (hC : C10 m D){x : Int32} (hx : D 7 0 = 0 ∨ x.toInt < 0 ∨ 8 ≤ x.toInt) {y : Int32} (k : Q (some (.int (-101))) (wd z m) n) : AW mX10_people Q 0 (am_ent (am_l mX10_people) [.ref 37, .int x, .int y]) [] (wd z m) n 0 0 := by
  show AW _ _ 0 [some (.ref 37), some (.int x), some (.int y), none] [] _ _ 0 0
  obtain ⟨hg, hfd, hf3, hf0, hns, hn7, hmr, hwi, hw4, hfr, hr1, hhr, hh⟩ := id hC
  refine r_aload_n 1 rfl 0 dX10_people_0 rfl rfl ?_
  refine r_iload_n 2 rfl 1 dX10_people_1 rfl rfl ?_
  refine q_V 5 0 0 rfl [.int x] rfl dX10_people_2 cl_X10_people__X10_isCell (lk_X10_119 rfl) im_X10_isCell (ci := 10) rfl sl_X10__X10_isCell rfl (Nat.le_of_ble_eq_true rfl) (fun _ _ => Nat.le_of_ble_eq_true rfl) rfl rfl (Nat.le_of_ble_eq_true rfl) (Nat.le_of_ble_eq_true rfl) ?_
  refine c10_isCell_f hfd hf3 hx (k_i ?_)
  refine r_if_ne 8 11 rfl dX10_people_5 rfl (fun q__ => absurd (by decide) q__) (fun _ => ?_)
  refine r_bipush 10 rfl (-101) dX10_people_8 (by decide) ?_
  refine r_ireturn rfl dX10_people_10 (Nat.le_of_ble_eq_true rfl) (Nat.le_of_ble_eq_true rfl) ?_
  exact k

set_option maxHeartbeats 4000000 in
set_option maxRecDepth 20000 in
theorem c10_people_o {Q : am_P} {z : am_Z} {m : Nat → Nat → Int32} {n : Nat} {D : Nat → Nat → Nat} (hC : C10 m D){c : Nat} (hc : c < 8) (hf1 : 1 ≤ D 7 0){y : Int32} (hy : y.toInt < 0 ∨ 10 ≤ y.toInt) (k : Q (some (.int (-102))) (wd z m) n) : AW mX10_people Q 0 (am_ent (am_l mX10_people) [.ref 37, .int (nI c), .int y]) [] (wd z m) n 0 0 := by
  show AW _ _ 0 [some (.ref 37), some (.int (nI c)), some (.int y), none] [] _ _ 0 0
  obtain ⟨hg, hfd, hf3, hf0, hns, hn7, hmr, hwi, hw4, hfr, hr1, hhr, hh⟩ := id hC
  refine r_aload_n 1 rfl 0 dX10_people_0 rfl rfl ?_
  refine r_iload_n 2 rfl 1 dX10_people_1 rfl rfl ?_
  refine q_V 5 0 0 rfl [.int (nI c)] rfl dX10_people_2 cl_X10_people__X10_isCell (lk_X10_119 rfl) im_X10_isCell (ci := 10) rfl sl_X10__X10_isCell rfl (Nat.le_of_ble_eq_true rfl) (fun _ _ => Nat.le_of_ble_eq_true rfl) rfl rfl (Nat.le_of_ble_eq_true rfl) (Nat.le_of_ble_eq_true rfl) ?_
  refine c10_isCell_t hc hfd hf1 hf3 (k_i ?_)
  refine r_if_ne 8 11 rfl dX10_people_5 rfl (fun _ => ?_) (fun q__ => absurd q__ (by decide))
  refine r_iload_n 12 rfl 2 dX10_people_11 rfl rfl ?_
  refine r_i2l 13 rfl dX10_people_12 ?_
  refine r_lconst 14 rfl 0 dX10_people_13 rfl ?_
  refine r_ldc2 17 rfl 9 dX10_people_14 (cn_X10_117 rfl) ?_
  refine q_S 20 0 0 rfl [.long y.toInt64, .long 0, .long 9] rfl dX10_people_17 cl_X10_people__X10_in (lk_X10_64 rfl) st_X10_in (Nat.le_of_ble_eq_true rfl) (fun _ _ => Nat.le_of_ble_eq_true rfl) rfl rfl (Nat.le_of_ble_eq_true rfl) (Nat.le_of_ble_eq_true rfl) ?_
  refine c_in_f (show y.toInt64.toInt < (0 : Int) ∨ (9 : Int) < y.toInt64.toInt by rw [Int32.toInt_toInt64]; omega) (k_i ?_)
  refine r_if_ne 23 26 rfl dX10_people_20 rfl (fun q__ => absurd (by decide) q__) (fun _ => ?_)
  refine r_bipush 25 rfl (-102) dX10_people_23 (by decide) ?_
  refine r_ireturn rfl dX10_people_25 (Nat.le_of_ble_eq_true rfl) (Nat.le_of_ble_eq_true rfl) ?_
  exact k

set_option maxHeartbeats 4000000 in
set_option maxRecDepth 20000 in
theorem c10_people_s {Q : am_P} {z : am_Z} {m : Nat → Nat → Int32} {n : Nat} {D : Nat → Nat → Nat} (hC : C10 m D){c : Nat} (hc : c < 8) (hf1 : 1 ≤ D 7 0){v : Nat} (hv : v < 10) (hv1 : D 0 c = 1) (k : Q (some (.int (-103))) (wd z m) n) : AW mX10_people Q 0 (am_ent (am_l mX10_people) [.ref 37, .int (nI c), .int (nI v)]) [] (wd z m) n 0 0 := by
  show AW _ _ 0 [some (.ref 37), some (.int (nI c)), some (.int (nI v)), none] [] _ _ 0 0
  obtain ⟨hg, hfd, hf3, hf0, hns, hn7, hmr, hwi, hw4, hfr, hr1, hhr, hh⟩ := id hC
  refine r_aload_n 1 rfl 0 dX10_people_0 rfl rfl ?_
  refine r_iload_n 2 rfl 1 dX10_people_1 rfl rfl ?_
  refine q_V 5 0 0 rfl [.int (nI c)] rfl dX10_people_2 cl_X10_people__X10_isCell (lk_X10_119 rfl) im_X10_isCell (ci := 10) rfl sl_X10__X10_isCell rfl (Nat.le_of_ble_eq_true rfl) (fun _ _ => Nat.le_of_ble_eq_true rfl) rfl rfl (Nat.le_of_ble_eq_true rfl) (Nat.le_of_ble_eq_true rfl) ?_
  refine c10_isCell_t hc hfd hf1 hf3 (k_i ?_)
  refine r_if_ne 8 11 rfl dX10_people_5 rfl (fun _ => ?_) (fun q__ => absurd q__ (by decide))
  refine r_iload_n 12 rfl 2 dX10_people_11 rfl rfl ?_
  refine r_i2l 13 rfl dX10_people_12 ?_
  refine r_lconst 14 rfl 0 dX10_people_13 rfl ?_
  refine r_ldc2 17 rfl 9 dX10_people_14 (cn_X10_117 rfl) ?_
  refine q_S 20 0 0 rfl [.long ((nI v).toInt64), .long 0, .long 9] rfl dX10_people_17 cl_X10_people__X10_in (lk_X10_64 rfl) st_X10_in (Nat.le_of_ble_eq_true rfl) (fun _ _ => Nat.le_of_ble_eq_true rfl) rfl rfl (Nat.le_of_ble_eq_true rfl) (Nat.le_of_ble_eq_true rfl) ?_
  refine c_in_t (show (0 : Int) ≤ (nI v).toInt64.toInt by rw [Int32.toInt_toInt64, nI_toInt (by omega)]; omega) (show (nI v).toInt64.toInt ≤ (9 : Int) by rw [Int32.toInt_toInt64, nI_toInt (by omega)]; omega) (k_i ?_)
  refine r_if_ne 23 26 rfl dX10_people_20 rfl (fun _ => ?_) (fun q__ => absurd q__ (by decide))
  refine r_aload_n 27 rfl 0 dX10_people_26 rfl rfl ?_
  refine r_getf (v := .ref 39) (k := 7) 30 rfl dX10_people_27 (gf_X10_13_10 rfl) rfl rfl ?_
  refine r_iload_n 31 rfl 1 dX10_people_30 rfl rfl ?_
  refine r_iald (f := m 39) 32 rfl c dX10_people_31 rfl rfl (by omega) (by decide) ?_
  rw [show (m 39) c = nI (D 0 c) from (hg c hc).1]
  refine r_iconst 33 rfl 1 dX10_people_32 rfl ?_
  refine r_icmp_ne 36 39 rfl dX10_people_33 rfl (fun q__ => absurd ((nI_eq (a := (D 0 c)) (b := 1) (by omega) (by omega)).mpr (by omega)) q__) (fun _ => ?_)
  refine r_bipush 38 rfl (-103) dX10_people_36 (by decide) ?_
  refine r_ireturn rfl dX10_people_38 (Nat.le_of_ble_eq_true rfl) (Nat.le_of_ble_eq_true rfl) ?_
  exact k

set_option maxHeartbeats 4000000 in
set_option maxRecDepth 20000 in
theorem c10_people_t {Q : am_P} {z : am_Z} {m : Nat → Nat → Int32} {n : Nat} {D : Nat → Nat → Nat} (hC : C10 m D){c : Nat} (hc : c < 8) (hf1 : 1 ≤ D 7 0){v : Nat} (hv : v < 10) (hv1 : ¬ D 0 c = 1) (k : Q (some (.int (m 40 c))) (wd z (va_up m 40 (upd (m 40) c (nI v)))) n) : AW mX10_people Q 0 (am_ent (am_l mX10_people) [.ref 37, .int (nI c), .int (nI v)]) [] (wd z m) n 0 0 := by
  show AW _ _ 0 [some (.ref 37), some (.int (nI c)), some (.int (nI v)), none] [] _ _ 0 0
  obtain ⟨hg, hfd, hf3, hf0, hns, hn7, hmr, hwi, hw4, hfr, hr1, hhr, hh⟩ := id hC
  have hgc := (hg c hc).2
  refine r_aload_n 1 rfl 0 dX10_people_0 rfl rfl ?_
  refine r_iload_n 2 rfl 1 dX10_people_1 rfl rfl ?_
  refine q_V 5 0 0 rfl [.int (nI c)] rfl dX10_people_2 cl_X10_people__X10_isCell (lk_X10_119 rfl) im_X10_isCell (ci := 10) rfl sl_X10__X10_isCell rfl (Nat.le_of_ble_eq_true rfl) (fun _ _ => Nat.le_of_ble_eq_true rfl) rfl rfl (Nat.le_of_ble_eq_true rfl) (Nat.le_of_ble_eq_true rfl) ?_
  refine c10_isCell_t hc hfd hf1 hf3 (k_i ?_)
  refine r_if_ne 8 11 rfl dX10_people_5 rfl (fun _ => ?_) (fun q__ => absurd q__ (by decide))
  refine r_iload_n 12 rfl 2 dX10_people_11 rfl rfl ?_
  refine r_i2l 13 rfl dX10_people_12 ?_
  refine r_lconst 14 rfl 0 dX10_people_13 rfl ?_
  refine r_ldc2 17 rfl 9 dX10_people_14 (cn_X10_117 rfl) ?_
  refine q_S 20 0 0 rfl [.long ((nI v).toInt64), .long 0, .long 9] rfl dX10_people_17 cl_X10_people__X10_in (lk_X10_64 rfl) st_X10_in (Nat.le_of_ble_eq_true rfl) (fun _ _ => Nat.le_of_ble_eq_true rfl) rfl rfl (Nat.le_of_ble_eq_true rfl) (Nat.le_of_ble_eq_true rfl) ?_
  refine c_in_t (show (0 : Int) ≤ (nI v).toInt64.toInt by rw [Int32.toInt_toInt64, nI_toInt (by omega)]; omega) (show (nI v).toInt64.toInt ≤ (9 : Int) by rw [Int32.toInt_toInt64, nI_toInt (by omega)]; omega) (k_i ?_)
  refine r_if_ne 23 26 rfl dX10_people_20 rfl (fun _ => ?_) (fun q__ => absurd q__ (by decide))
  refine r_aload_n 27 rfl 0 dX10_people_26 rfl rfl ?_
  refine r_getf (v := .ref 39) (k := 7) 30 rfl dX10_people_27 (gf_X10_13_10 rfl) rfl rfl ?_
  refine r_iload_n 31 rfl 1 dX10_people_30 rfl rfl ?_
  refine r_iald (f := m 39) 32 rfl c dX10_people_31 rfl rfl (by omega) (by decide) ?_
  rw [show (m 39) c = nI (D 0 c) from (hg c hc).1]
  refine r_iconst 33 rfl 1 dX10_people_32 rfl ?_
  refine r_icmp_ne 36 39 rfl dX10_people_33 rfl (fun _ => ?_) (fun q__ => absurd q__ (fun q__ => absurd ((nI_eq (a := (D 0 c)) (b := 1) (by omega) (by omega)).mp q__) (by omega)))
  refine r_aload_n 40 rfl 0 dX10_people_39 rfl rfl ?_
  refine r_getf (v := .ref 40) (k := 8) 43 rfl dX10_people_40 (gf_X10_16_10 rfl) rfl rfl ?_
  refine r_iload_n 44 rfl 1 dX10_people_43 rfl rfl ?_
  refine r_iald (f := m 40) 45 rfl c dX10_people_44 rfl rfl (by omega) (by decide) ?_
  refine r_istore_n 46 rfl 3 [some (.ref 37), some (.int (nI c)), some (.int (nI v)), some (.int ((m 40) c))] dX10_people_45 rfl (by decide) rfl ?_
  refine r_aload_n 47 rfl 0 dX10_people_46 rfl rfl ?_
  refine r_getf (v := .ref 40) (k := 8) 50 rfl dX10_people_47 (gf_X10_16_10 rfl) rfl rfl ?_
  refine r_iload_n 51 rfl 1 dX10_people_50 rfl rfl ?_
  refine r_iload_n 52 rfl 2 dX10_people_51 rfl rfl ?_
  refine w_iast 53 rfl c (va_up m 40 (upd (m 40) c (nI v))) dX10_people_52 (by decide) (by decide) (fun _ => rfl) rfl (by omega) (by decide) rfl ?_
  refine r_iload_n 54 rfl 3 dX10_people_53 rfl rfl ?_
  refine r_ireturn rfl dX10_people_54 (Nat.le_of_ble_eq_true rfl) (Nat.le_of_ble_eq_true rfl) ?_
  exact k

set_option maxHeartbeats 4000000 in
set_option maxRecDepth 20000 in
theorem P_people {i : Nat} {z : am_Z} {m : Nat → Nat → Int32} {n : Nat} {D K : Nat → Nat → Nat} (hI : IV i z m n D K) (hi : i + 5 ≤ 2560) (x : Int32) (y : Int32) : AW mX9_people (PR (i + 5) mX10_people [.ref 37, .int x, .int y]) 0 (am_ent (am_l mX9_people) [.ref 1, .int x, .int y]) [] (wd z m) n 0 0 := by
  obtain ⟨h9, h10, hnz, hpg, hop, hnw, hct, him⟩ := id hI
  by_cases hx : D 7 0 = 0 ∨ x.toInt < 0 ∨ 8 ≤ x.toInt
  · exact c9_people_n h9 hx (PR_i (fun Q2 k => c10_people_n h10 hx (k _ _ _ _ _ (IV_mono hI (by omega) hi))))
  · have hf1 : 1 ≤ D 7 0 := by omega
    obtain ⟨c, hc, rfl⟩ := (i_cases x 8 (by decide)).resolve_left (by omega)
    rcases i_cases y 10 (by decide) with hy | ⟨v, hv, rfl⟩
    · exact c9_people_o h9 hc hf1 hy (PR_i (fun Q2 k => c10_people_o h10 hc hf1 hy (k _ _ _ _ _ (IV_mono hI (by omega) hi))))
    · by_cases hv1 : D 0 c = 1
      · exact c9_people_s h9 hc hf1 hv hv1 (PR_i (fun Q2 k => c10_people_s h10 hc hf1 hv hv1 (k _ _ _ _ _ (IV_mono hI (by omega) hi))))
      · refine c9_people_t h9 hc hf1 hv hv1 (PR_i (fun Q2 k => ?_))
        refine c10_people_t (m := va_up m 10 (upd (m 10) c (nI v))) (D := D) h10 hc hf1 hv hv1 ?_
        show Q2 (some (.int (m 40 c))) _ _
        rw [show m 40 c = m 10 c from (hnw.1.1 c hc).symm]
        exact k _ _ _ D K ⟨h9, h10, hnz, hpg, hop, ⟨⟨fun j hj => upd_c (hnw.1.1 j hj), hnw.1.2⟩, hnw.2⟩, CT_mono hct (by omega) hi, IM_mono him (by omega)⟩
