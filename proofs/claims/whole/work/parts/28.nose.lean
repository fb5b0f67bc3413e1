set_option maxHeartbeats 4000000 in
set_option maxRecDepth 20000 in
theorem P_letter {i : Nat} {z : am_Z} {m : Nat → Nat → Int32} {n : Nat} {D K : Nat → Nat → Nat} (hI : IV i z m n D K) (hi : i + 5 ≤ 2560) (x : Int32) : AW mX9_letter (PR (i + 5) mX10_letter [.ref 37, .int x]) 0 (am_ent (am_l mX9_letter) [.ref 1, .int x]) [] (wd z m) n 0 0 := by
  obtain ⟨h9, h10, hnz, hpg, hop, hnw, hct, him⟩ := id hI
  obtain ⟨hp1, hp2, hp3, hp4⟩ := id hpg
  by_cases hx : x.toInt < 1 ∨ 126 < x.toInt
  · exact c9_letter_o hx (PR_i (fun Q2 k => c10_letter_o hx (k _ _ _ _ _ (IV_mono hI (by omega) hi))))
  · by_cases hf : D 8 0 = 14
    · exact c9_letter_f (by omega) (by omega) (by rw [hp1, hf]) (PR_i (fun Q2 k => c10_letter_f (by omega) (by omega) (by rw [hp2, hf]) (k _ _ _ _ _ (IV_mono hI (by omega) hi))))
    · refine c9_letter_t (by omega) (by omega) hp1 hp3 (by omega) (fun m1 h2 h3 hag => PR_i (fun Q2 k => ?_))
      obtain rfl := ag_2 hag h2 h3
      refine c10_letter_t (by omega) (by omega) (pm := D 8 0) hp2 hp3 (by omega) (fun m2 g2 g3 hag2 => ?_)
      obtain rfl := ag_2 hag2 g2 g3
      refine k _ _ _ (va_up D 8 (va_up (D 8) 0 (D 8 0 + 1))) K ⟨h9, h10, hnz, ⟨rfl, rfl, (show D 8 0 + 1 ≤ 14 by omega), fun j hj => ?_⟩, hop, hnw, CT_mono hct (by omega) hi, IM_mono him (by omega)⟩
      have hj : j < D 8 0 + 1 := hj
      show upd (m 3) (D 8 0) x j = upd (m 38) (D 8 0) x j
      unfold upd
      by_cases h : j = D 8 0
      · rw [if_pos h, if_pos h]
      · rw [if_neg h, if_neg h]; exact hp4 j (by omega)

set_option maxHeartbeats 4000000 in
set_option maxRecDepth 20000 in
theorem P_blank {i : Nat} {z : am_Z} {m : Nat → Nat → Int32} {n : Nat} {D K : Nat → Nat → Nat} (hI : IV i z m n D K) (hi : i + 5 ≤ 2560)  : AW mX9_blank (PR (i + 5) mX10_blank [.ref 37]) 0 (am_ent (am_l mX9_blank) [.ref 1]) [] (wd z m) n 0 0 := by
  obtain ⟨h9, h10, hnz, hpg, hop, hnw, hct, him⟩ := id hI
  obtain ⟨hp1, hp2, hp3, hp4⟩ := id hpg
  refine c_X9_blank (PR_i (fun Q2 k => ?_))
  refine c_X10_blank ?_
  show Q2 (some (.int (m 37 1))) _ _
  rw [show m 37 1 = m 2 1 from hp2.trans hp1.symm]
  exact k _ _ _ (va_up D 8 (va_up (D 8) 0 0)) K ⟨h9, h10, hnz, ⟨rfl, rfl, Nat.zero_le 14, fun j hj => absurd hj (Nat.not_lt_zero j)⟩, hop, hnw, CT_mono hct (by omega) hi, IM_mono him (by omega)⟩

set_option maxHeartbeats 4000000 in
set_option maxRecDepth 20000 in
theorem P_fault {i : Nat} {z : am_Z} {m : Nat → Nat → Int32} {n : Nat} {D K : Nat → Nat → Nat} (hI : IV i z m n D K) (hi : i + 5 ≤ 2560)  : AW mX9_fault (PR (i + 5) mX10_fault [.ref 37]) 0 (am_ent (am_l mX9_fault) [.ref 1]) [] (wd z m) n 0 0 := by
  obtain ⟨h9, h10, hnz, hpg, hop, hnw, hct, him⟩ := id hI
  obtain ⟨hp1, hp2, hp3, hp4⟩ := id hpg
  refine c_X9_fault hp1 hp3 (PR_i (fun Q2 k => c_X10_fault hp2 hp3 ?_))
  rw [← pg_fw_congr (f := m 3) (g := m 38) (D 8 0) 0 (fun j _ hj => hp4 j (by omega))]
  exact k _ _ _ _ _ (IV_mono hI (by omega) hi)

theorem CT_BD {i : Nat} {z : am_Z} {m : Nat → Nat → Int32} {D : Nat → Nat → Nat} (h : CT i m D) (h9 : C9 z m D) : BD D 1000 := by
  obtain ⟨_, _, _, d, e, f⟩ := h
  refine ⟨by omega, fun s hs => ⟨by have := e s hs; omega, ?_⟩⟩
  exact (h9.2.2.2.2.2.2.2.1 s hs).2.1

set_option maxHeartbeats 4000000 in
set_option maxRecDepth 20000 in
theorem P_hour {i : Nat} {z : am_Z} {m : Nat → Nat → Int32} {n : Nat} {D K : Nat → Nat → Nat} (hI : IV i z m n D K) (hi : i + 5 ≤ 2560)  : AW mX9_hour (PR (i + 5) mX10_hour [.ref 37]) 0 (am_ent (am_l mX9_hour) [.ref 1]) [] (wd z m) n 0 0 := by
  obtain ⟨h9, h10, hnz, hpg, hop, hnw, hct, him⟩ := id hI
  obtain ⟨hg, hfd, hf3, hf0, hns, hn6, hsd, hsb, hwi, hw4, hfr, hr1, hhr, hh⟩ := id h9
  obtain ⟨gg, gfd, gf3, gf0, gns, gn7, gmr, gwi, gw4, gfr, gr1, ghr, gh⟩ := id h10
  have hB := CT_BD hct h9
  by_cases hf : D 7 0 = 0
  · exact c9_hour_s (by rw [hfd, hf]) (PR_i (fun Q2 k => c10_hour_s (by rw [gfd, hf]) (k _ _ _ _ _ (IV_mono hI (by omega) hi))))
  · refine c9_hour_t h9 (by omega) (BD_le hB (by omega)) (fun m1 hC1 h7 hag => PR_i (fun Q2 k => ?_))
    have e1 : ∀ k, k ∉ [7, 9] → m1 k = m k := hag
    refine c10_hour_t (C10_ag h10 hag (by decide)) (by omega) (BD_le hB (by omega)) (fun m2 hC2 h42 h37 hag2 => ?_)
    have e2 : ∀ k, k ∉ [37, 42] → m2 k = m1 k := hag2
    have hh37 : m2 37 = upd (m 37) 5 (nI (D 7 3 + 1)) := by rw [h37, e1 37 (by decide)]
    have e (x : Nat) (hx : x ∉ [7, 9, 37, 42]) : m2 x = m x := by
      have hx' := hx
      simp only [List.mem_cons, List.not_mem_nil, or_false, not_or] at hx'
      rw [e2 x (by simp [hx'.2.2.1, hx'.2.2.2]), e1 x (by simp [hx'.1, hx'.2.1])]
    have e37 : ∀ j, j ≠ 5 → m2 37 j = m 37 j := fun j hj => by rw [hh37]; unfold upd; rw [if_neg hj]
    refine k _ _ _ (EH D) K ⟨C9_ag hC1 hag2 (by decide), hC2, hnz, ?_, ?_, ?_, ?_, ?_⟩
    · unfold PG at *; rw [e 2 (by decide), e 3 (by decide), e 38 (by decide), e37 1 (by decide)]; exact hpg
    · unfold OP at *; rw [e 4 (by decide)]; exact hop
    · have h78 : m2 7 8 = m 7 8 := by rw [e2 7 (by decide)]; exact h7 8 (by decide)
      unfold NW PT BL at *; simp only [Nat.reduceAdd] at *
      rw [h78, e 8 (by decide), e 10 (by decide), e 11 (by decide), e 12 (by decide), e 13 (by decide), e 40 (by decide), e 41 (by decide), e 48 (by decide), e37 18 (by decide)]; exact hnw
    · obtain ⟨a1, a2, a3, a4, a5, a6⟩ := CT_mono hct (show i ≤ i + 4 by omega) (by omega)
      refine ⟨?_, ?_, ?_, ?_, ?_, hi⟩
      · rw [e 1 (by decide), e37 6 (by decide)]; exact ⟨a1.1, a1.2.1, (show D 8 2 ≤ i + 5 by have := a1.2.2; omega)⟩
      · rw [e 1 (by decide), e37 15 (by decide)]; exact a2
      · rw [e 1 (by decide), e37 19 (by decide)]; exact a3
      · show D 7 3 + 1 ≤ i + 5; omega
      · intro s hs; show (if s < D 7 1 then D 6 s + D 5 s else D 6 s) ≤ i + 5; have := a5 s hs; have := (hB.2 s hs).2; split <;> omega
    · have him := IM_mono him (show i ≤ i + 5 by omega)
      unfold IM KP PT BL SB at *; simp only [Nat.reduceAdd] at *
      rw [e 1 (by decide), e 14 (by decide), e 15 (by decide), e 16 (by decide), e 17 (by decide), e 18 (by decide), e 19 (by decide), e 20 (by decide), e 50 (by decide), e 51 (by decide), e 52 (by decide), e 53 (by decide), e37 23 (by decide), e37 24 (by decide), e37 25 (by decide), e37 26 (by decide), e37 27 (by decide), e37 28 (by decide)]; exact him

set_option maxHeartbeats 4000000 in
set_option maxRecDepth 20000 in
theorem c_addNose {Q : am_P} {z : am_Z} {m : Nat → Nat → Int32} {n : Nat} {c nn : Nat} {y : Int32} (hn : nn < 8) (hnm : m 7 8 = nI nn) (k : Q none (wd z (va_up (va_up (va_up m 12 (upd (m 12) nn (nI c))) 13 (upd (m 13) nn y)) 7 (upd (m 7) 8 (nI (nn + 1))))) n) : AW mX5_addNose Q 0 (am_ent (am_l mX5_addNose) [.ref 7, .int (nI c), .int y]) [] (wd z m) n 0 0 := by
  show AW _ _ 0 [some (.ref 7), some (.int (nI c)), some (.int y)] [] _ _ 0 0
  refine r_aload_n 1 rfl 0 dX5_addNose_0 rfl rfl ?_
  refine r_getf (v := .int ((m 7) 8)) (k := 8) 4 rfl dX5_addNose_1 (gf_X5_51_5 rfl) rfl rfl ?_
  rw [show (m 7) 8 = nI nn from hnm]
  refine r_bipush 6 rfl 8 dX5_addNose_4 (by decide) ?_
  refine r_icmp_lt 9 10 rfl dX5_addNose_6 rfl (fun _ => ?_) (fun q__ => absurd ((nI_ltI (a := nn) (b := 8) (by omega) (by omega)).mpr (by omega)) q__)
  refine r_aload_n 11 rfl 0 dX5_addNose_10 rfl rfl ?_
  refine r_getf (v := .ref 12) (k := 9) 14 rfl dX5_addNose_11 (gf_X5_25_5 rfl) rfl rfl ?_
  refine r_aload_n 15 rfl 0 dX5_addNose_14 rfl rfl ?_
  refine r_getf (v := .int ((m 7) 8)) (k := 8) 18 rfl dX5_addNose_15 (gf_X5_51_5 rfl) rfl rfl ?_
  rw [show (m 7) 8 = nI nn from hnm]
  refine r_iload_n 19 rfl 1 dX5_addNose_18 rfl rfl ?_
  refine w_iast 20 rfl nn (va_up m 12 (upd (m 12) nn (nI c))) dX5_addNose_19 (by decide) (by decide) (fun _ => rfl) rfl (by omega) (by decide) rfl ?_
  refine r_aload_n 21 rfl 0 dX5_addNose_20 rfl rfl ?_
  refine r_getf (v := .ref 13) (k := 10) 24 rfl dX5_addNose_21 (gf_X5_28_5 rfl) rfl rfl ?_
  refine r_aload_n 25 rfl 0 dX5_addNose_24 rfl rfl ?_
  refine r_getf (v := .int ((m 7) 8)) (k := 8) 28 rfl dX5_addNose_25 (gf_X5_51_5 rfl) rfl rfl ?_
  rw [show (m 7) 8 = nI nn from hnm]
  refine r_iload_n 29 rfl 2 dX5_addNose_28 rfl rfl ?_
  refine w_iast 30 rfl nn (va_up (va_up m 12 (upd (m 12) nn (nI c))) 13 (upd (m 13) nn y)) dX5_addNose_29 (by decide) (by decide) (fun _ => rfl) rfl (by omega) (by decide) rfl ?_
  refine r_aload_n 31 rfl 0 dX5_addNose_30 rfl rfl ?_
  refine r_dup 32 rfl dX5_addNose_31 rfl ?_
  refine r_getf (v := .int ((m 7) 8)) (k := 8) 35 rfl dX5_addNose_32 (gf_X5_51_5 rfl) rfl rfl ?_
  rw [show (m 7) 8 = nI nn from hnm]
  refine r_iconst 36 rfl 1 dX5_addNose_35 rfl ?_
  refine r_iadd 37 rfl dX5_addNose_36 ?_
  rw [show (nI nn) + 1 = nI (nn + 1) from nI_add nn 1]
  refine w_putf 40 rfl (k := 8) (va_up (va_up (va_up m 12 (upd (m 12) nn (nI c))) 13 (upd (m 13) nn y)) 7 (upd (m 7) 8 (nI (nn + 1)))) dX5_addNose_37 (pf_X5_51_5 rfl) (by decide) (by decide) rfl (Nat.le_of_ble_eq_true rfl) rfl ⟨rfl, rfl⟩ rfl ?_
  refine r_return rfl dX5_addNose_40 (Nat.le_of_ble_eq_true rfl) (Nat.le_of_ble_eq_true rfl) ?_
  exact k

set_option maxHeartbeats 4000000 in
set_option maxRecDepth 20000 in
theorem c9_nose_n {Q : am_P} {z : am_Z} {m : Nat → Nat → Int32} {n : Nat} {D : Nat → Nat → Nat} (hC : C9 z m D){x : Int32} (hx : D 7 0 = 0 ∨ x.toInt < 0 ∨ 8 ≤ x.toInt) {y : Int32} (k : Q (some (.int (-101))) (wd z m) n) : AW mX9_nose Q 0 (am_ent (am_l mX9_nose) [.ref 1, .int x, .int y]) [] (wd z m) n 0 0 := by
  show AW _ _ 0 [some (.ref 1), some (.int x), some (.int y)] [] _ _ 0 0
  obtain ⟨hg, hfd, hf3, hf0, hns, hn6, hsd, hsb, hwi, hw4, hfr, hr1, hhr, hh⟩ := id hC
  refine r_aload_n 1 rfl 0 dX9_nose_0 rfl rfl ?_
  refine r_iload_n 2 rfl 1 dX9_nose_1 rfl rfl ?_
  refine q_V 5 0 0 rfl [.int x] rfl dX9_nose_2 cl_X9_nose__X9_isCell (lk_X9_99 rfl) im_X9_isCell (ci := 9) rfl sl_X9__X9_isCell rfl (Nat.le_of_ble_eq_true rfl) (fun _ _ => Nat.le_of_ble_eq_true rfl) rfl rfl (Nat.le_of_ble_eq_true rfl) (Nat.le_of_ble_eq_true rfl) ?_
  refine c_isCell_f hfd hf3 hx (k_i ?_)
  refine r_if_ne 8 11 rfl dX9_nose_5 rfl (fun q__ => absurd (by decide) q__) (fun _ => ?_)
  refine r_bipush 10 rfl (-101) dX9_nose_8 (by decide) ?_
  refine r_ireturn rfl dX9_nose_10 (Nat.le_of_ble_eq_true rfl) (Nat.le_of_ble_eq_true rfl) ?_
  exact k

set_option maxHeartbeats 4000000 in
set_option maxRecDepth 20000 in
theorem c9_nose_o {Q : am_P} {z : am_Z} {m : Nat → Nat → Int32} {n : Nat} {D : Nat → Nat → Nat} (hC : C9 z m D){c : Nat} (hc : c < 8) (hf1 : 1 ≤ D 7 0){y : Int32} (hy : y.toInt < -1 ∨ 3 ≤ y.toInt) (k : Q (some (.int (-102))) (wd z m) n) : AW mX9_nose Q 0 (am_ent (am_l mX9_nose) [.ref 1, .int (nI c), .int y]) [] (wd z m) n 0 0 := by
  show AW _ _ 0 [some (.ref 1), some (.int (nI c)), some (.int y)] [] _ _ 0 0
  obtain ⟨hg, hfd, hf3, hf0, hns, hn6, hsd, hsb, hwi, hw4, hfr, hr1, hhr, hh⟩ := id hC
  refine r_aload_n 1 rfl 0 dX9_nose_0 rfl rfl ?_
  refine r_iload_n 2 rfl 1 dX9_nose_1 rfl rfl ?_
  refine q_V 5 0 0 rfl [.int (nI c)] rfl dX9_nose_2 cl_X9_nose__X9_isCell (lk_X9_99 rfl) im_X9_isCell (ci := 9) rfl sl_X9__X9_isCell rfl (Nat.le_of_ble_eq_true rfl) (fun _ _ => Nat.le_of_ble_eq_true rfl) rfl rfl (Nat.le_of_ble_eq_true rfl) (Nat.le_of_ble_eq_true rfl) ?_
  refine c_isCell_t hc hfd hf1 hf3 (k_i ?_)
  refine r_if_ne 8 11 rfl dX9_nose_5 rfl (fun _ => ?_) (fun q__ => absurd q__ (by decide))
  refine r_iload_n 12 rfl 2 dX9_nose_11 rfl rfl ?_
  refine r_iconst 13 rfl (-1) dX9_nose_12 rfl ?_
  refine r_icmp_eq 16 26 rfl dX9_nose_13 rfl (fun c13 => ?_) (fun c13 => ?_)
  · replace c13 : y.toInt = (-1 : Int) := Int32.toInt_inj.symm.mp c13
    exfalso; omega
  · replace c13 : ¬ y.toInt = (-1 : Int) := fun q__ => c13 (Int32.toInt_inj.symm.mpr q__)
    refine r_iload_n 17 rfl 2 dX9_nose_16 rfl rfl ?_
    refine q_S 20 0 0 rfl [.int y] rfl dX9_nose_17 cl_X9_nose__X9_isParish (lk_X9_113 rfl) st_X9_isParish (Nat.le_of_ble_eq_true rfl) (fun _ _ => Nat.le_of_ble_eq_true rfl) rfl rfl (Nat.le_of_ble_eq_true rfl) (Nat.le_of_ble_eq_true rfl) ?_
    refine c_isPar_f (by omega) (k_i ?_)
    refine r_if_ne 23 26 rfl dX9_nose_20 rfl (fun q__ => absurd (by decide) q__) (fun _ => ?_)
    refine r_bipush 25 rfl (-102) dX9_nose_23 (by decide) ?_
    refine r_ireturn rfl dX9_nose_25 (Nat.le_of_ble_eq_true rfl) (Nat.le_of_ble_eq_true rfl) ?_
    exact k

set_option maxHeartbeats 4000000 in
set_option maxRecDepth 20000 in
theorem c9_nose_fm {Q : am_P} {z : am_Z} {m : Nat → Nat → Int32} {n : Nat} {D : Nat → Nat → Nat} (hC : C9 z m D){c : Nat} (hc : c < 8) (hf1 : 1 ≤ D 7 0) {nn : Nat} (hn : nn = 8) (hnm : m 7 8 = nI nn) (k : Q (some (.int (-104))) (wd z m) n) : AW mX9_nose Q 0 (am_ent (am_l mX9_nose) [.ref 1, .int (nI c), .int (-1)]) [] (wd z m) n 0 0 := by
  show AW _ _ 0 [some (.ref 1), some (.int (nI c)), some (.int (-1))] [] _ _ 0 0
  obtain ⟨hg, hfd, hf3, hf0, hns, hn6, hsd, hsb, hwi, hw4, hfr, hr1, hhr, hh⟩ := id hC
  refine r_aload_n 1 rfl 0 dX9_nose_0 rfl rfl ?_
  refine r_iload_n 2 rfl 1 dX9_nose_1 rfl rfl ?_
  refine q_V 5 0 0 rfl [.int (nI c)] rfl dX9_nose_2 cl_X9_nose__X9_isCell (lk_X9_99 rfl) im_X9_isCell (ci := 9) rfl sl_X9__X9_isCell rfl (Nat.le_of_ble_eq_true rfl) (fun _ _ => Nat.le_of_ble_eq_true rfl) rfl rfl (Nat.le_of_ble_eq_true rfl) (Nat.le_of_ble_eq_true rfl) ?_
  refine c_isCell_t hc hfd hf1 hf3 (k_i ?_)
  refine r_if_ne 8 11 rfl dX9_nose_5 rfl (fun _ => ?_) (fun q__ => absurd q__ (by decide))
  refine r_iload_n 12 rfl 2 dX9_nose_11 rfl rfl ?_
  refine r_iconst 13 rfl (-1) dX9_nose_12 rfl ?_
  refine r_icmp_eq 16 26 rfl dX9_nose_13 rfl (fun _ => ?_) (fun q__ => absurd (by decide) q__)
  refine r_aload_n 27 rfl 0 dX9_nose_26 rfl rfl ?_
  refine r_getf (v := .ref 7) (k := 3) 30 rfl dX9_nose_27 (gf_X9_32_9 rfl) rfl rfl ?_
  refine r_getf (v := .int ((m 7) 8)) (k := 8) 33 rfl dX9_nose_30 (gf_X9_219_5 rfl) rfl rfl ?_
  rw [show (m 7) 8 = nI nn from hnm]
  refine r_bipush 35 rfl 8 dX9_nose_33 (by decide) ?_
  refine r_icmp_lt 38 41 rfl dX9_nose_35 rfl (fun q__ => absurd q__ (fun q__ => absurd ((nI_ltI (a := nn) (b := 8) (by omega) (by omega)).mp q__) (by omega))) (fun _ => ?_)
  refine r_bipush 40 rfl (-104) dX9_nose_38 (by decide) ?_
  refine r_ireturn rfl dX9_nose_40 (Nat.le_of_ble_eq_true rfl) (Nat.le_of_ble_eq_true rfl) ?_
  exact k

set_option maxHeartbeats 4000000 in
set_option maxRecDepth 20000 in
theorem c9_nose_tm {Q : am_P} {z : am_Z} {m : Nat → Nat → Int32} {n : Nat} {D : Nat → Nat → Nat} (hC : C9 z m D){c : Nat} (hc : c < 8) (hf1 : 1 ≤ D 7 0) {nn : Nat} (hn : nn < 8) (hnm : m 7 8 = nI nn) (k : Q (some (.int (nI (nn + 1)))) (wd z (va_up (va_up (va_up m 12 (upd (m 12) nn (nI c))) 13 (upd (m 13) nn (-1))) 7 (upd (m 7) 8 (nI (nn + 1))))) n) : AW mX9_nose Q 0 (am_ent (am_l mX9_nose) [.ref 1, .int (nI c), .int (-1)]) [] (wd z m) n 0 0 := by
  show AW _ _ 0 [some (.ref 1), some (.int (nI c)), some (.int (-1))] [] _ _ 0 0
  obtain ⟨hg, hfd, hf3, hf0, hns, hn6, hsd, hsb, hwi, hw4, hfr, hr1, hhr, hh⟩ := id hC
  refine r_aload_n 1 rfl 0 dX9_nose_0 rfl rfl ?_
  refine r_iload_n 2 rfl 1 dX9_nose_1 rfl rfl ?_
  refine q_V 5 0 0 rfl [.int (nI c)] rfl dX9_nose_2 cl_X9_nose__X9_isCell (lk_X9_99 rfl) im_X9_isCell (ci := 9) rfl sl_X9__X9_isCell rfl (Nat.le_of_ble_eq_true rfl) (fun _ _ => Nat.le_of_ble_eq_true rfl) rfl rfl (Nat.le_of_ble_eq_true rfl) (Nat.le_of_ble_eq_true rfl) ?_
  refine c_isCell_t hc hfd hf1 hf3 (k_i ?_)
  refine r_if_ne 8 11 rfl dX9_nose_5 rfl (fun _ => ?_) (fun q__ => absurd q__ (by decide))
  refine r_iload_n 12 rfl 2 dX9_nose_11 rfl rfl ?_
  refine r_iconst 13 rfl (-1) dX9_nose_12 rfl ?_
  refine r_icmp_eq 16 26 rfl dX9_nose_13 rfl (fun _ => ?_) (fun q__ => absurd (by decide) q__)
  refine r_aload_n 27 rfl 0 dX9_nose_26 rfl rfl ?_
  refine r_getf (v := .ref 7) (k := 3) 30 rfl dX9_nose_27 (gf_X9_32_9 rfl) rfl rfl ?_
  refine r_getf (v := .int ((m 7) 8)) (k := 8) 33 rfl dX9_nose_30 (gf_X9_219_5 rfl) rfl rfl ?_
  rw [show (m 7) 8 = nI nn from hnm]
  refine r_bipush 35 rfl 8 dX9_nose_33 (by decide) ?_
  refine r_icmp_lt 38 41 rfl dX9_nose_35 rfl (fun _ => ?_) (fun q__ => absurd ((nI_ltI (a := nn) (b := 8) (by omega) (by omega)).mpr (by omega)) q__)
  refine r_aload_n 42 rfl 0 dX9_nose_41 rfl rfl ?_
  refine r_getf (v := .ref 7) (k := 3) 45 rfl dX9_nose_42 (gf_X9_32_9 rfl) rfl rfl ?_
  refine r_iload_n 46 rfl 1 dX9_nose_45 rfl rfl ?_
  refine r_iload_n 47 rfl 2 dX9_nose_46 rfl rfl ?_
  refine q_V 50 0 0 rfl [.int (nI c), .int (-1)] rfl dX9_nose_47 cl_X9_nose__X5_addNose (lk_X9_222 rfl) im_X5_addNose (ci := 5) rfl sl_X5__X5_addNose rfl (Nat.le_of_ble_eq_true rfl) (fun _ _ => Nat.le_of_ble_eq_true rfl) rfl rfl (Nat.le_of_ble_eq_true rfl) (Nat.le_of_ble_eq_true rfl) ?_
  refine c_addNose hn hnm (k_v ?_)
  refine r_aload_n 51 rfl 0 dX9_nose_50 rfl rfl ?_
  refine r_getf (v := .ref 7) (k := 3) 54 rfl dX9_nose_51 (gf_X9_32_9 rfl) rfl rfl ?_
  refine r_getf (v := .int (nI (nn + 1))) (k := 8) 57 rfl dX9_nose_54 (gf_X9_219_5 rfl) rfl rfl ?_
  refine r_ireturn rfl dX9_nose_57 (Nat.le_of_ble_eq_true rfl) (Nat.le_of_ble_eq_true rfl) ?_
  exact k

set_option maxHeartbeats 4000000 in
set_option maxRecDepth 20000 in
theorem c9_nose_fp {Q : am_P} {z : am_Z} {m : Nat → Nat → Int32} {n : Nat} {D : Nat → Nat → Nat} (hC : C9 z m D){c : Nat} (hc : c < 8) (hf1 : 1 ≤ D 7 0){p : Nat} (hp : p < 3) {nn : Nat} (hn : nn = 8) (hnm : m 7 8 = nI nn) (k : Q (some (.int (-104))) (wd z m) n) : AW mX9_nose Q 0 (am_ent (am_l mX9_nose) [.ref 1, .int (nI c), .int (nI p)]) [] (wd z m) n 0 0 := by
  show AW _ _ 0 [some (.ref 1), some (.int (nI c)), some (.int (nI p))] [] _ _ 0 0
  obtain ⟨hg, hfd, hf3, hf0, hns, hn6, hsd, hsb, hwi, hw4, hfr, hr1, hhr, hh⟩ := id hC
  refine r_aload_n 1 rfl 0 dX9_nose_0 rfl rfl ?_
  refine r_iload_n 2 rfl 1 dX9_nose_1 rfl rfl ?_
  refine q_V 5 0 0 rfl [.int (nI c)] rfl dX9_nose_2 cl_X9_nose__X9_isCell (lk_X9_99 rfl) im_X9_isCell (ci := 9) rfl sl_X9__X9_isCell rfl (Nat.le_of_ble_eq_true rfl) (fun _ _ => Nat.le_of_ble_eq_true rfl) rfl rfl (Nat.le_of_ble_eq_true rfl) (Nat.le_of_ble_eq_true rfl) ?_
  refine c_isCell_t hc hfd hf1 hf3 (k_i ?_)
  refine r_if_ne 8 11 rfl dX9_nose_5 rfl (fun _ => ?_) (fun q__ => absurd q__ (by decide))
  refine r_iload_n 12 rfl 2 dX9_nose_11 rfl rfl ?_
  refine r_iconst 13 rfl (-1) dX9_nose_12 rfl ?_
  refine r_icmp_eq 16 26 rfl dX9_nose_13 rfl (fun q__ => absurd q__ (nI_m1 (by omega))) (fun _ => ?_)
  refine r_iload_n 17 rfl 2 dX9_nose_16 rfl rfl ?_
  refine q_S 20 0 0 rfl [.int (nI p)] rfl dX9_nose_17 cl_X9_nose__X9_isParish (lk_X9_113 rfl) st_X9_isParish (Nat.le_of_ble_eq_true rfl) (fun _ _ => Nat.le_of_ble_eq_true rfl) rfl rfl (Nat.le_of_ble_eq_true rfl) (Nat.le_of_ble_eq_true rfl) ?_
  refine c_isPar_t hp (k_i ?_)
  refine r_if_ne 23 26 rfl dX9_nose_20 rfl (fun _ => ?_) (fun q__ => absurd q__ (by decide))
  refine r_aload_n 27 rfl 0 dX9_nose_26 rfl rfl ?_
  refine r_getf (v := .ref 7) (k := 3) 30 rfl dX9_nose_27 (gf_X9_32_9 rfl) rfl rfl ?_
  refine r_getf (v := .int ((m 7) 8)) (k := 8) 33 rfl dX9_nose_30 (gf_X9_219_5 rfl) rfl rfl ?_
  rw [show (m 7) 8 = nI nn from hnm]
  refine r_bipush 35 rfl 8 dX9_nose_33 (by decide) ?_
  refine r_icmp_lt 38 41 rfl dX9_nose_35 rfl (fun q__ => absurd q__ (fun q__ => absurd ((nI_ltI (a := nn) (b := 8) (by omega) (by omega)).mp q__) (by omega))) (fun _ => ?_)
  refine r_bipush 40 rfl (-104) dX9_nose_38 (by decide) ?_
  refine r_ireturn rfl dX9_nose_40 (Nat.le_of_ble_eq_true rfl) (Nat.le_of_ble_eq_true rfl) ?_
  exact k

set_option maxHeartbeats 4000000 in
set_option maxRecDepth 20000 in
theorem c9_nose_tp {Q : am_P} {z : am_Z} {m : Nat → Nat → Int32} {n : Nat} {D : Nat → Nat → Nat} (hC : C9 z m D){c : Nat} (hc : c < 8) (hf1 : 1 ≤ D 7 0){p : Nat} (hp : p < 3) {nn : Nat} (hn : nn < 8) (hnm : m 7 8 = nI nn) (k : Q (some (.int (nI (nn + 1)))) (wd z (va_up (va_up (va_up m 12 (upd (m 12) nn (nI c))) 13 (upd (m 13) nn (nI p))) 7 (upd (m 7) 8 (nI (nn + 1))))) n) : AW mX9_nose Q 0 (am_ent (am_l mX9_nose) [.ref 1, .int (nI c), .int (nI p)]) [] (wd z m) n 0 0 := by
  show AW _ _ 0 [some (.ref 1), some (.int (nI c)), some (.int (nI p))] [] _ _ 0 0
  obtain ⟨hg, hfd, hf3, hf0, hns, hn6, hsd, hsb, hwi, hw4, hfr, hr1, hhr, hh⟩ := id hC
  refine r_aload_n 1 rfl 0 dX9_nose_0 rfl rfl ?_
  refine r_iload_n 2 rfl 1 dX9_nose_1 rfl rfl ?_
  refine q_V 5 0 0 rfl [.int (nI c)] rfl dX9_nose_2 cl_X9_nose__X9_isCell (lk_X9_99 rfl) im_X9_isCell (ci := 9) rfl sl_X9__X9_isCell rfl (Nat.le_of_ble_eq_true rfl) (fun _ _ => Nat.le_of_ble_eq_true rfl) rfl rfl (Nat.le_of_ble_eq_true rfl) (Nat.le_of_ble_eq_true rfl) ?_
  refine c_isCell_t hc hfd hf1 hf3 (k_i ?_)
  refine r_if_ne 8 11 rfl dX9_nose_5 rfl (fun _ => ?_) (fun q__ => absurd q__ (by decide))
  refine r_iload_n 12 rfl 2 dX9_nose_11 rfl rfl ?_
  refine r_iconst 13 rfl (-1) dX9_nose_12 rfl ?_
  refine r_icmp_eq 16 26 rfl dX9_nose_13 rfl (fun q__ => absurd q__ (nI_m1 (by omega))) (fun _ => ?_)
  refine r_iload_n 17 rfl 2 dX9_nose_16 rfl rfl ?_
  refine q_S 20 0 0 rfl [.int (nI p)] rfl dX9_nose_17 cl_X9_nose__X9_isParish (lk_X9_113 rfl) st_X9_isParish (Nat.le_of_ble_eq_true rfl) (fun _ _ => Nat.le_of_ble_eq_true rfl) rfl rfl (Nat.le_of_ble_eq_true rfl) (Nat.le_of_ble_eq_true rfl) ?_
  refine c_isPar_t hp (k_i ?_)
  refine r_if_ne 23 26 rfl dX9_nose_20 rfl (fun _ => ?_) (fun q__ => absurd q__ (by decide))
  refine r_aload_n 27 rfl 0 dX9_nose_26 rfl rfl ?_
  refine r_getf (v := .ref 7) (k := 3) 30 rfl dX9_nose_27 (gf_X9_32_9 rfl) rfl rfl ?_
  refine r_getf (v := .int ((m 7) 8)) (k := 8) 33 rfl dX9_nose_30 (gf_X9_219_5 rfl) rfl rfl ?_
  rw [show (m 7) 8 = nI nn from hnm]
  refine r_bipush 35 rfl 8 dX9_nose_33 (by decide) ?_
  refine r_icmp_lt 38 41 rfl dX9_nose_35 rfl (fun _ => ?_) (fun q__ => absurd ((nI_ltI (a := nn) (b := 8) (by omega) (by omega)).mpr (by omega)) q__)
  refine r_aload_n 42 rfl 0 dX9_nose_41 rfl rfl ?_
  refine r_getf (v := .ref 7) (k := 3) 45 rfl dX9_nose_42 (gf_X9_32_9 rfl) rfl rfl ?_
  refine r_iload_n 46 rfl 1 dX9_nose_45 rfl rfl ?_
  refine r_iload_n 47 rfl 2 dX9_nose_46 rfl rfl ?_
  refine q_V 50 0 0 rfl [.int (nI c), .int (nI p)] rfl dX9_nose_47 cl_X9_nose__X5_addNose (lk_X9_222 rfl) im_X5_addNose (ci := 5) rfl sl_X5__X5_addNose rfl (Nat.le_of_ble_eq_true rfl) (fun _ _ => Nat.le_of_ble_eq_true rfl) rfl rfl (Nat.le_of_ble_eq_true rfl) (Nat.le_of_ble_eq_true rfl) ?_
  refine c_addNose hn hnm (k_v ?_)
  refine r_aload_n 51 rfl 0 dX9_nose_50 rfl rfl ?_
  refine r_getf (v := .ref 7) (k := 3) 54 rfl dX9_nose_51 (gf_X9_32_9 rfl) rfl rfl ?_
  refine r_getf (v := .int (nI (nn + 1))) (k := 8) 57 rfl dX9_nose_54 (gf_X9_219_5 rfl) rfl rfl ?_
  refine r_ireturn rfl dX9_nose_57 (Nat.le_of_ble_eq_true rfl) (Nat.le_of_ble_eq_true rfl) ?_
  exact k

theorem c9_nose_f {Q : am_P} {z : am_Z} {m : Nat → Nat → Int32} {n : Nat} {D : Nat → Nat → Nat} (hC : C9 z m D) {c : Nat} (hc : c < 8) (hf1 : 1 ≤ D 7 0) {y : Int32} (hy : -1 ≤ y.toInt) (hy3 : y.toInt < 3) {nn : Nat} (hn : nn = 8) (hnm : m 7 8 = nI nn) (k : Q (some (.int (-104))) (wd z m) n) : AW mX9_nose Q 0 (am_ent (am_l mX9_nose) [.ref 1, .int (nI c), .int y]) [] (wd z m) n 0 0 := by
  by_cases h : y.toInt = -1
  · obtain rfl : y = -1 := Int32.toInt_inj.mp h
    exact c9_nose_fm hC hc hf1 hn hnm k
  · obtain ⟨p, hp, rfl⟩ := (i_cases y 3 (by decide)).resolve_left (by omega)
    exact c9_nose_fp hC hc hf1 hp hn hnm k
theorem c9_nose_t {Q : am_P} {z : am_Z} {m : Nat → Nat → Int32} {n : Nat} {D : Nat → Nat → Nat} (hC : C9 z m D) {c : Nat} (hc : c < 8) (hf1 : 1 ≤ D 7 0) {y : Int32} (hy : -1 ≤ y.toInt) (hy3 : y.toInt < 3) {nn : Nat} (hn : nn < 8) (hnm : m 7 8 = nI nn) (k : Q (some (.int (nI (nn + 1)))) (wd z (va_up (va_up (va_up m 12 (upd (m 12) nn (nI c))) 13 (upd (m 13) nn y)) 7 (upd (m 7) 8 (nI (nn + 1))))) n) : AW mX9_nose Q 0 (am_ent (am_l mX9_nose) [.ref 1, .int (nI c), .int y]) [] (wd z m) n 0 0 := by
  by_cases h : y.toInt = -1
  · obtain rfl : y = -1 := Int32.toInt_inj.mp h
    exact c9_nose_tm hC hc hf1 hn hnm k
  · obtain ⟨p, hp, rfl⟩ := (i_cases y 3 (by decide)).resolve_left (by omega)
    exact c9_nose_tp hC hc hf1 hp hn hnm k

set_option maxHeartbeats 4000000 in
set_option maxRecDepth 20000 in
theorem c10_nose_n {Q : am_P} {z : am_Z} {m : Nat → Nat → Int32} {n : Nat} {D : Nat → Nat → Nat} (hC : C10 m D){x : Int32} (hx : D 7 0 = 0 ∨ x.toInt < 0 ∨ 8 ≤ x.toInt) {y : Int32} (k : Q (some (.int (-101))) (wd z m) n) : AW mX10_nose Q 0 (am_ent (am_l mX10_nose) [.ref 37, .int x, .int y]) [] (wd z m) n 0 0 := by
  show AW _ _ 0 [some (.ref 37), some (.int x), some (.int y)] [] _ _ 0 0
  obtain ⟨hg, hfd, hf3, hf0, hns, hn7, hmr, hwi, hw4, hfr, hr1, hhr, hh⟩ := id hC
  refine r_aload_n 1 rfl 0 dX10_nose_0 rfl rfl ?_
  refine r_iload_n 2 rfl 1 dX10_nose_1 rfl rfl ?_
  refine q_V 5 0 0 rfl [.int x] rfl dX10_nose_2 cl_X10_nose__X10_isCell (lk_X10_119 rfl) im_X10_isCell (ci := 10) rfl sl_X10__X10_isCell rfl (Nat.le_of_ble_eq_true rfl) (fun _ _ => Nat.le_of_ble_eq_true rfl) rfl rfl (Nat.le_of_ble_eq_true rfl) (Nat.le_of_ble_eq_true rfl) ?_
  refine c10_isCell_f hfd hf3 hx (k_i ?_)
  refine r_if_ne 8 11 rfl dX10_nose_5 rfl (fun q__ => absurd (by decide) q__) (fun _ => ?_)
  refine r_bipush 10 rfl (-101) dX10_nose_8 (by decide) ?_
  refine r_ireturn rfl dX10_nose_10 (Nat.le_of_ble_eq_true rfl) (Nat.le_of_ble_eq_true rfl) ?_
  exact k

set_option maxHeartbeats 4000000 in
set_option maxRecDepth 20000 in
theorem c10_nose_o {Q : am_P} {z : am_Z} {m : Nat → Nat → Int32} {n : Nat} {D : Nat → Nat → Nat} (hC : C10 m D){c : Nat} (hc : c < 8) (hf1 : 1 ≤ D 7 0){y : Int32} (hy : y.toInt < -1 ∨ 3 ≤ y.toInt) (k : Q (some (.int (-102))) (wd z m) n) : AW mX10_nose Q 0 (am_ent (am_l mX10_nose) [.ref 37, .int (nI c), .int y]) [] (wd z m) n 0 0 := by
  show AW _ _ 0 [some (.ref 37), some (.int (nI c)), some (.int y)] [] _ _ 0 0
  obtain ⟨hg, hfd, hf3, hf0, hns, hn7, hmr, hwi, hw4, hfr, hr1, hhr, hh⟩ := id hC
  refine r_aload_n 1 rfl 0 dX10_nose_0 rfl rfl ?_
  refine r_iload_n 2 rfl 1 dX10_nose_1 rfl rfl ?_
  refine q_V 5 0 0 rfl [.int (nI c)] rfl dX10_nose_2 cl_X10_nose__X10_isCell (lk_X10_119 rfl) im_X10_isCell (ci := 10) rfl sl_X10__X10_isCell rfl (Nat.le_of_ble_eq_true rfl) (fun _ _ => Nat.le_of_ble_eq_true rfl) rfl rfl (Nat.le_of_ble_eq_true rfl) (Nat.le_of_ble_eq_true rfl) ?_
  refine c10_isCell_t hc hfd hf1 hf3 (k_i ?_)
  refine r_if_ne 8 11 rfl dX10_nose_5 rfl (fun _ => ?_) (fun q__ => absurd q__ (by decide))
  refine r_iload_n 12 rfl 2 dX10_nose_11 rfl rfl ?_
  refine r_i2l 13 rfl dX10_nose_12 ?_
  refine r_ldc2 16 rfl (-1) dX10_nose_13 (cn_X10_199 rfl) ?_
  refine r_ldc2 19 rfl 2 dX10_nose_16 (cn_X10_115 rfl) ?_
  refine q_S 22 0 0 rfl [.long y.toInt64, .long (-1), .long 2] rfl dX10_nose_19 cl_X10_nose__X10_in (lk_X10_64 rfl) st_X10_in (Nat.le_of_ble_eq_true rfl) (fun _ _ => Nat.le_of_ble_eq_true rfl) rfl rfl (Nat.le_of_ble_eq_true rfl) (Nat.le_of_ble_eq_true rfl) ?_
  refine c_in_f (show y.toInt64.toInt < (-1 : Int) ∨ (2 : Int) < y.toInt64.toInt by rw [Int32.toInt_toInt64]; omega) (k_i ?_)
  refine r_if_ne 25 28 rfl dX10_nose_22 rfl (fun q__ => absurd (by decide) q__) (fun _ => ?_)
  refine r_bipush 27 rfl (-102) dX10_nose_25 (by decide) ?_
  refine r_ireturn rfl dX10_nose_27 (Nat.le_of_ble_eq_true rfl) (Nat.le_of_ble_eq_true rfl) ?_
  exact k

set_option maxHeartbeats 4000000 in
set_option maxRecDepth 20000 in
theorem c10_nose_f {Q : am_P} {z : am_Z} {m : Nat → Nat → Int32} {n : Nat} {D : Nat → Nat → Nat} (hC : C10 m D){c : Nat} (hc : c < 8) (hf1 : 1 ≤ D 7 0){y : Int32} (hy : -1 ≤ y.toInt) (hy3 : y.toInt < 3) {nn : Nat} (hn : nn = 8) (hnm : m 37 18 = nI nn) (k : Q (some (.int (-104))) (wd z m) n) : AW mX10_nose Q 0 (am_ent (am_l mX10_nose) [.ref 37, .int (nI c), .int y]) [] (wd z m) n 0 0 := by
  show AW _ _ 0 [some (.ref 37), some (.int (nI c)), some (.int y)] [] _ _ 0 0
  obtain ⟨hg, hfd, hf3, hf0, hns, hn7, hmr, hwi, hw4, hfr, hr1, hhr, hh⟩ := id hC
  refine r_aload_n 1 rfl 0 dX10_nose_0 rfl rfl ?_
  refine r_iload_n 2 rfl 1 dX10_nose_1 rfl rfl ?_
  refine q_V 5 0 0 rfl [.int (nI c)] rfl dX10_nose_2 cl_X10_nose__X10_isCell (lk_X10_119 rfl) im_X10_isCell (ci := 10) rfl sl_X10__X10_isCell rfl (Nat.le_of_ble_eq_true rfl) (fun _ _ => Nat.le_of_ble_eq_true rfl) rfl rfl (Nat.le_of_ble_eq_true rfl) (Nat.le_of_ble_eq_true rfl) ?_
  refine c10_isCell_t hc hfd hf1 hf3 (k_i ?_)
  refine r_if_ne 8 11 rfl dX10_nose_5 rfl (fun _ => ?_) (fun q__ => absurd q__ (by decide))
  refine r_iload_n 12 rfl 2 dX10_nose_11 rfl rfl ?_
  refine r_i2l 13 rfl dX10_nose_12 ?_
  refine r_ldc2 16 rfl (-1) dX10_nose_13 (cn_X10_199 rfl) ?_
  refine r_ldc2 19 rfl 2 dX10_nose_16 (cn_X10_115 rfl) ?_
  refine q_S 22 0 0 rfl [.long y.toInt64, .long (-1), .long 2] rfl dX10_nose_19 cl_X10_nose__X10_in (lk_X10_64 rfl) st_X10_in (Nat.le_of_ble_eq_true rfl) (fun _ _ => Nat.le_of_ble_eq_true rfl) rfl rfl (Nat.le_of_ble_eq_true rfl) (Nat.le_of_ble_eq_true rfl) ?_
  refine c_in_t (show (-1 : Int) ≤ y.toInt64.toInt by rw [Int32.toInt_toInt64]; omega) (show y.toInt64.toInt ≤ (2 : Int) by rw [Int32.toInt_toInt64]; omega) (k_i ?_)
  refine r_if_ne 25 28 rfl dX10_nose_22 rfl (fun _ => ?_) (fun q__ => absurd q__ (by decide))
  refine r_aload_n 29 rfl 0 dX10_nose_28 rfl rfl ?_
  refine r_getf (v := .int ((m 37) 18)) (k := 18) 32 rfl dX10_nose_29 (gf_X10_98_10 rfl) rfl rfl ?_
  rw [show (m 37) 18 = nI nn from hnm]
  refine r_bipush 34 rfl 8 dX10_nose_32 (by decide) ?_
  refine r_icmp_ne 37 40 rfl dX10_nose_34 rfl (fun q__ => absurd ((nI_eq (a := nn) (b := 8) (by omega) (by omega)).mpr (by omega)) q__) (fun _ => ?_)
  refine r_bipush 39 rfl (-104) dX10_nose_37 (by decide) ?_
  refine r_ireturn rfl dX10_nose_39 (Nat.le_of_ble_eq_true rfl) (Nat.le_of_ble_eq_true rfl) ?_
  exact k

set_option maxHeartbeats 4000000 in
set_option maxRecDepth 20000 in
theorem c10_nose_t {Q : am_P} {z : am_Z} {m : Nat → Nat → Int32} {n : Nat} {D : Nat → Nat → Nat} (hC : C10 m D){c : Nat} (hc : c < 8) (hf1 : 1 ≤ D 7 0){y : Int32} (hy : -1 ≤ y.toInt) (hy3 : y.toInt < 3) {nn : Nat} (hn : nn < 8) (hnm : m 37 18 = nI nn) (k : Q (some (.int (nI (nn + 1)))) (wd z (va_up (va_up (va_up m 48 (upd (m 48) (2 * nn) (nI c))) 48 (upd (upd (m 48) (2 * nn) (nI c)) (2 * nn + 1) y)) 37 (upd (m 37) 18 (nI (nn + 1))))) n) : AW mX10_nose Q 0 (am_ent (am_l mX10_nose) [.ref 37, .int (nI c), .int y]) [] (wd z m) n 0 0 := by
  show AW _ _ 0 [some (.ref 37), some (.int (nI c)), some (.int y)] [] _ _ 0 0
  obtain ⟨hg, hfd, hf3, hf0, hns, hn7, hmr, hwi, hw4, hfr, hr1, hhr, hh⟩ := id hC
  refine r_aload_n 1 rfl 0 dX10_nose_0 rfl rfl ?_
  refine r_iload_n 2 rfl 1 dX10_nose_1 rfl rfl ?_
  refine q_V 5 0 0 rfl [.int (nI c)] rfl dX10_nose_2 cl_X10_nose__X10_isCell (lk_X10_119 rfl) im_X10_isCell (ci := 10) rfl sl_X10__X10_isCell rfl (Nat.le_of_ble_eq_true rfl) (fun _ _ => Nat.le_of_ble_eq_true rfl) rfl rfl (Nat.le_of_ble_eq_true rfl) (Nat.le_of_ble_eq_true rfl) ?_
  refine c10_isCell_t hc hfd hf1 hf3 (k_i ?_)
  refine r_if_ne 8 11 rfl dX10_nose_5 rfl (fun _ => ?_) (fun q__ => absurd q__ (by decide))
  refine r_iload_n 12 rfl 2 dX10_nose_11 rfl rfl ?_
  refine r_i2l 13 rfl dX10_nose_12 ?_
  refine r_ldc2 16 rfl (-1) dX10_nose_13 (cn_X10_199 rfl) ?_
  refine r_ldc2 19 rfl 2 dX10_nose_16 (cn_X10_115 rfl) ?_
  refine q_S 22 0 0 rfl [.long y.toInt64, .long (-1), .long 2] rfl dX10_nose_19 cl_X10_nose__X10_in (lk_X10_64 rfl) st_X10_in (Nat.le_of_ble_eq_true rfl) (fun _ _ => Nat.le_of_ble_eq_true rfl) rfl rfl (Nat.le_of_ble_eq_true rfl) (Nat.le_of_ble_eq_true rfl) ?_
  refine c_in_t (show (-1 : Int) ≤ y.toInt64.toInt by rw [Int32.toInt_toInt64]; omega) (show y.toInt64.toInt ≤ (2 : Int) by rw [Int32.toInt_toInt64]; omega) (k_i ?_)
  refine r_if_ne 25 28 rfl dX10_nose_22 rfl (fun _ => ?_) (fun q__ => absurd q__ (by decide))
  refine r_aload_n 29 rfl 0 dX10_nose_28 rfl rfl ?_
  refine r_getf (v := .int ((m 37) 18)) (k := 18) 32 rfl dX10_nose_29 (gf_X10_98_10 rfl) rfl rfl ?_
  rw [show (m 37) 18 = nI nn from hnm]
  refine r_bipush 34 rfl 8 dX10_nose_32 (by decide) ?_
  refine r_icmp_ne 37 40 rfl dX10_nose_34 rfl (fun _ => ?_) (fun q__ => absurd q__ (fun q__ => absurd ((nI_eq (a := nn) (b := 8) (by omega) (by omega)).mp q__) (by omega)))
  refine r_aload_n 41 rfl 0 dX10_nose_40 rfl rfl ?_
  refine r_getf (v := .ref 48) (k := 20) 44 rfl dX10_nose_41 (gf_X10_40_10 rfl) rfl rfl ?_
  refine r_iconst 45 rfl 2 dX10_nose_44 rfl ?_
  refine r_aload_n 46 rfl 0 dX10_nose_45 rfl rfl ?_
  refine r_getf (v := .int ((m 37) 18)) (k := 18) 49 rfl dX10_nose_46 (gf_X10_98_10 rfl) rfl rfl ?_
  rw [show (m 37) 18 = nI nn from hnm]
  refine r_imul 50 rfl dX10_nose_49 ?_
  rw [show 2 * (nI nn) = nI (2 * nn) from pk_mul 2 nn]
  refine r_iload_n 51 rfl 1 dX10_nose_50 rfl rfl ?_
  refine w_iast 52 rfl (2 * nn) (va_up m 48 (upd (m 48) (2 * nn) (nI c))) dX10_nose_51 (by decide) (by decide) (fun _ => rfl) rfl (by omega) (by decide) rfl ?_
  refine r_aload_n 53 rfl 0 dX10_nose_52 rfl rfl ?_
  refine r_getf (v := .ref 48) (k := 20) 56 rfl dX10_nose_53 (gf_X10_40_10 rfl) rfl rfl ?_
  refine r_iconst 57 rfl 2 dX10_nose_56 rfl ?_
  refine r_aload_n 58 rfl 0 dX10_nose_57 rfl rfl ?_
  refine r_getf (v := .int ((m 37) 18)) (k := 18) 61 rfl dX10_nose_58 (gf_X10_98_10 rfl) rfl rfl ?_
  rw [show (m 37) 18 = nI nn from hnm]
  refine r_imul 62 rfl dX10_nose_61 ?_
  rw [show 2 * (nI nn) = nI (2 * nn) from pk_mul 2 nn]
  refine r_iconst 63 rfl 1 dX10_nose_62 rfl ?_
  refine r_iadd 64 rfl dX10_nose_63 ?_
  rw [show (nI (2 * nn)) + 1 = nI ((2 * nn) + 1) from nI_add (2 * nn) 1]
  refine r_iload_n 65 rfl 2 dX10_nose_64 rfl rfl ?_
  refine w_iast 66 rfl ((2 * nn) + 1) (va_up (va_up m 48 (upd (m 48) (2 * nn) (nI c))) 48 (upd (upd (m 48) (2 * nn) (nI c)) ((2 * nn) + 1) y)) dX10_nose_65 (by decide) (by decide) (fun _ => rfl) rfl (by omega) (by decide) rfl ?_
  refine r_aload_n 67 rfl 0 dX10_nose_66 rfl rfl ?_
  refine r_dup 68 rfl dX10_nose_67 rfl ?_
  refine r_getf (v := .int ((m 37) 18)) (k := 18) 71 rfl dX10_nose_68 (gf_X10_98_10 rfl) rfl rfl ?_
  rw [show (m 37) 18 = nI nn from hnm]
  refine r_iconst 72 rfl 1 dX10_nose_71 rfl ?_
  refine r_iadd 73 rfl dX10_nose_72 ?_
  rw [show (nI nn) + 1 = nI (nn + 1) from nI_add nn 1]
  refine w_putf 76 rfl (k := 18) (va_up (va_up (va_up m 48 (upd (m 48) (2 * nn) (nI c))) 48 (upd (upd (m 48) (2 * nn) (nI c)) ((2 * nn) + 1) y)) 37 (upd (m 37) 18 (nI (nn + 1)))) dX10_nose_73 (pf_X10_98_10 rfl) (by decide) (by decide) rfl (Nat.le_of_ble_eq_true rfl) rfl ⟨rfl, rfl⟩ rfl ?_
  refine r_aload_n 77 rfl 0 dX10_nose_76 rfl rfl ?_
  refine r_getf (v := .int (nI (nn + 1))) (k := 18) 80 rfl dX10_nose_77 (gf_X10_98_10 rfl) rfl rfl ?_
  refine r_ireturn rfl dX10_nose_80 (Nat.le_of_ble_eq_true rfl) (Nat.le_of_ble_eq_true rfl) ?_
  exact k

set_option maxHeartbeats 4000000 in
set_option maxRecDepth 20000 in
theorem P_nose {i : Nat} {z : am_Z} {m : Nat → Nat → Int32} {n : Nat} {D K : Nat → Nat → Nat} (hI : IV i z m n D K) (hi : i + 5 ≤ 2560) (x : Int32) (y : Int32) : AW mX9_nose (PR (i + 5) mX10_nose [.ref 37, .int x, .int y]) 0 (am_ent (am_l mX9_nose) [.ref 1, .int x, .int y]) [] (wd z m) n 0 0 := by
  obtain ⟨h9, h10, hnz, hpg, hop, hnw, hct, him⟩ := id hI
  by_cases hx : D 7 0 = 0 ∨ x.toInt < 0 ∨ 8 ≤ x.toInt
  · exact c9_nose_n h9 hx (PR_i (fun Q2 k => c10_nose_n h10 hx (k _ _ _ _ _ (IV_mono hI (by omega) hi))))
  · have hf1 : 1 ≤ D 7 0 := by omega
    obtain ⟨c, hc, rfl⟩ := (i_cases x 8 (by decide)).resolve_left (by omega)
    obtain ⟨⟨p1, p2, p3, p4⟩, w1, w2, w3⟩ := id hnw
    by_cases hy : y.toInt < -1 ∨ 3 ≤ y.toInt
    · exact c9_nose_o h9 hc hf1 hy (PR_i (fun Q2 k => c10_nose_o h10 hc hf1 hy (k _ _ _ _ _ (IV_mono hI (by omega) hi))))
    · by_cases hn : D 8 1 = 8
      · exact c9_nose_f h9 hc hf1 (by omega) (by omega) hn w1 (PR_i (fun Q2 k => c10_nose_f h10 hc hf1 (by omega) (by omega) hn w2 (k _ _ _ _ _ (IV_mono hI (by omega) hi))))
      · refine c9_nose_t h9 hc hf1 (by omega) (by omega) (show D 8 1 < 8 by omega) w1 (PR_i (fun Q2 k => ?_))
        refine c10_nose_t (m := va_up (va_up (va_up m 12 (upd (m 12) (D 8 1) (nI c))) 13 (upd (m 13) (D 8 1) y)) 7 (upd (m 7) 8 (nI (D 8 1 + 1)))) (D := D) h10 hc hf1 (by omega) (by omega) (nn := D 8 1) (by omega) w2 ?_
        refine k _ _ _ (va_up D 8 (va_up (D 8) 1 (D 8 1 + 1))) K ⟨h9, h10, hnz, hpg, hop, ⟨⟨p1, p2, (show D 8 1 + 1 ≤ 8 by omega), fun j hj => ?_⟩, rfl, rfl, w3⟩, CT_mono hct (by omega) hi, IM_mono him (by omega)⟩
        have hj : j < D 8 1 + 1 := hj
        refine ⟨?_, ?_, ?_⟩
        · show upd (m 12) (D 8 1) (nI c) j = upd (upd (m 48) (2 * D 8 1) (nI c)) (2 * D 8 1 + 1) y (2 * j)
          unfold upd
          by_cases h : j = D 8 1
          · rw [if_pos h, if_neg (by omega), if_pos (by omega)]
          · rw [if_neg h, if_neg (by omega), if_neg (by omega)]; exact (p4 j (by omega)).1
        · show upd (m 13) (D 8 1) y j = upd (upd (m 48) (2 * D 8 1) (nI c)) (2 * D 8 1 + 1) y (2 * j + 1)
          unfold upd
          by_cases h : j = D 8 1
          · rw [if_pos h, if_pos (by omega)]
          · rw [if_neg h, if_neg (by omega), if_neg (by omega)]; exact (p4 j (by omega)).2.1
        · show ∃ q, q < 8 ∧ upd (m 12) (D 8 1) (nI c) j = nI q
          unfold upd
          by_cases h : j = D 8 1
          · rw [if_pos h]; exact ⟨c, hc, rfl⟩
          · rw [if_neg h]; exact (p4 j (by omega)).2.2

set_option maxHeartbeats 4000000 in
set_option maxRecDepth 20000 in
theorem c9_forget {Q : am_P} {z : am_Z} {m : Nat → Nat → Int32} {n : Nat}  (k : Q (some (.int (m 7 8))) (wd z (va_up m 7 (upd (m 7) 8 0))) n) : AW mX9_forget Q 0 (am_ent (am_l mX9_forget) [.ref 1]) [] (wd z m) n 0 0 := by
  show AW _ _ 0 [some (.ref 1), none] [] _ _ 0 0
  refine r_aload_n 1 rfl 0 dX9_forget_0 rfl rfl ?_
  refine r_getf (v := .ref 7) (k := 3) 4 rfl dX9_forget_1 (gf_X9_32_9 rfl) rfl rfl ?_
  refine r_getf (v := .int ((m 7) 8)) (k := 8) 7 rfl dX9_forget_4 (gf_X9_219_5 rfl) rfl rfl ?_
  refine r_istore_n 8 rfl 1 [some (.ref 1), some (.int ((m 7) 8))] dX9_forget_7 rfl (by decide) rfl ?_
  refine r_aload_n 9 rfl 0 dX9_forget_8 rfl rfl ?_
  refine r_getf (v := .ref 7) (k := 3) 12 rfl dX9_forget_9 (gf_X9_32_9 rfl) rfl rfl ?_
  refine r_iconst 13 rfl 0 dX9_forget_12 rfl ?_
  refine w_putf 16 rfl (k := 8) (va_up m 7 (upd (m 7) 8 0)) dX9_forget_13 (pf_X9_219_5 rfl) (by decide) (by decide) rfl (Nat.le_of_ble_eq_true rfl) rfl ⟨rfl, rfl⟩ rfl ?_
  refine r_iload_n 17 rfl 1 dX9_forget_16 rfl rfl ?_
  refine r_ireturn rfl dX9_forget_17 (Nat.le_of_ble_eq_true rfl) (Nat.le_of_ble_eq_true rfl) ?_
  exact k

set_option maxHeartbeats 4000000 in
set_option maxRecDepth 20000 in
theorem c10_forget {Q : am_P} {z : am_Z} {m : Nat → Nat → Int32} {n : Nat}  (k : Q (some (.int (m 37 18))) (wd z (va_up m 37 (upd (m 37) 18 0))) n) : AW mX10_forget Q 0 (am_ent (am_l mX10_forget) [.ref 37]) [] (wd z m) n 0 0 := by
  show AW _ _ 0 [some (.ref 37), none] [] _ _ 0 0
  refine r_aload_n 1 rfl 0 dX10_forget_0 rfl rfl ?_
  refine r_getf (v := .int ((m 37) 18)) (k := 18) 4 rfl dX10_forget_1 (gf_X10_98_10 rfl) rfl rfl ?_
  refine r_istore_n 5 rfl 1 [some (.ref 37), some (.int ((m 37) 18))] dX10_forget_4 rfl (by decide) rfl ?_
  refine r_aload_n 6 rfl 0 dX10_forget_5 rfl rfl ?_
  refine r_iconst 7 rfl 0 dX10_forget_6 rfl ?_
  refine w_putf 10 rfl (k := 18) (va_up m 37 (upd (m 37) 18 0)) dX10_forget_7 (pf_X10_98_10 rfl) (by decide) (by decide) rfl (Nat.le_of_ble_eq_true rfl) rfl ⟨rfl, rfl⟩ rfl ?_
  refine r_iload_n 11 rfl 1 dX10_forget_10 rfl rfl ?_
  refine r_ireturn rfl dX10_forget_11 (Nat.le_of_ble_eq_true rfl) (Nat.le_of_ble_eq_true rfl) ?_
  exact k

set_option maxHeartbeats 4000000 in
set_option maxRecDepth 20000 in
theorem P_forget {i : Nat} {z : am_Z} {m : Nat → Nat → Int32} {n : Nat} {D K : Nat → Nat → Nat} (hI : IV i z m n D K) (hi : i + 5 ≤ 2560)  : AW mX9_forget (PR (i + 5) mX10_forget [.ref 37]) 0 (am_ent (am_l mX9_forget) [.ref 1]) [] (wd z m) n 0 0 := by
  obtain ⟨h9, h10, hnz, hpg, hop, hnw, hct, him⟩ := id hI
  obtain ⟨⟨p1, p2, p3, p4⟩, w1, w2, w3⟩ := id hnw
  refine c9_forget (PR_i (fun Q2 k => c10_forget ?_))
  show Q2 (some (.int (m 37 18))) _ _
  rw [show m 37 18 = m 7 8 from w2.trans w1.symm]
  exact k _ _ _ (va_up D 8 (va_up (D 8) 1 0)) K ⟨h9, h10, hnz, hpg, hop, ⟨⟨p1, p2, Nat.zero_le 8, fun j hj => absurd hj (Nat.not_lt_zero j)⟩, rfl, rfl, w3⟩, CT_mono hct (by omega) hi, IM_mono him (by omega)⟩
