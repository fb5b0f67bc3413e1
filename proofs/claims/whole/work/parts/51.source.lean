def YT (D : Nat → Nat → Nat) (kd pa ce sg : Nat) : Nat → Nat → Nat := fun t => if t = 1 then va_up (D 1) (D 7 1) kd else if t = 2 then va_up (D 2) (D 7 1) pa else if t = 3 then va_up (D 3) (D 7 1) ce else if t = 4 then va_up (D 4) (D 7 1) sg else if t = 5 then va_up (D 5) (D 7 1) 1 else if t = 6 then va_up (D 6) (D 7 1) 0 else if t = 7 then va_up (D 7) 1 (D 7 1 + 1) else D t

set_option maxHeartbeats 4000000 in
set_option maxRecDepth 20000 in
theorem c9_source_o1 {Q : am_P} {z : am_Z} {m : Nat → Nat → Int32} {n : Nat} {x : Int32} (hx : x.toInt < 0 ∨ 5 ≤ x.toInt) {y c v : Int32} (k : Q (some (.int (-102))) (wd z m) n) : AW mX9_source Q 0 (am_ent (am_l mX9_source) [.ref 1, .int x, .int y, .int c, .int v]) [] (wd z m) n 0 0 := by
  show AW _ _ 0 [some (.ref 1), some (.int x), some (.int y), some (.int c), some (.int v)] [] _ _ 0 0
  refine r_iload_n 1 rfl 1 dX9_source_0 rfl rfl ?_
  refine r_if_lt 4 16 rfl dX9_source_1 rfl (fun c1 => ?_) (fun c1 => ?_)
  · replace c1 : x.toInt < (0 : Int) := Int32.lt_iff_toInt_lt.mp c1
    refine r_bipush 18 rfl (-102) dX9_source_16 (by decide) ?_
    refine r_ireturn rfl dX9_source_18 (Nat.le_of_ble_eq_true rfl) (Nat.le_of_ble_eq_true rfl) ?_
    exact k
  · replace c1 : ¬ x.toInt < (0 : Int) := fun q__ => c1 (Int32.lt_iff_toInt_lt.mpr q__)
    refine r_iload_n 5 rfl 1 dX9_source_4 rfl rfl ?_
    refine r_iconst 6 rfl 5 dX9_source_5 rfl ?_
    refine r_icmp_ge 9 16 rfl dX9_source_6 rfl (fun c6 => ?_) (fun c6 => ?_)
    · replace c6 : (5 : Int) ≤ x.toInt := Int32.le_iff_toInt_le.mp c6
      refine r_bipush 18 rfl (-102) dX9_source_16 (by decide) ?_
      refine r_ireturn rfl dX9_source_18 (Nat.le_of_ble_eq_true rfl) (Nat.le_of_ble_eq_true rfl) ?_
      exact k
    · replace c6 : ¬ (5 : Int) ≤ x.toInt := fun q__ => c6 (Int32.le_iff_toInt_le.mpr q__)
      exfalso; omega

set_option maxHeartbeats 4000000 in
set_option maxRecDepth 20000 in
theorem c9_source_o2 {Q : am_P} {z : am_Z} {m : Nat → Nat → Int32} {n : Nat} {kd : Nat} (hk : kd < 5) {y : Int32} (hy : y.toInt < 0 ∨ 3 ≤ y.toInt) {c v : Int32} (k : Q (some (.int (-102))) (wd z m) n) : AW mX9_source Q 0 (am_ent (am_l mX9_source) [.ref 1, .int (nI kd), .int y, .int c, .int v]) [] (wd z m) n 0 0 := by
  show AW _ _ 0 [some (.ref 1), some (.int (nI kd)), some (.int y), some (.int c), some (.int v)] [] _ _ 0 0
  refine r_iload_n 1 rfl 1 dX9_source_0 rfl rfl ?_
  refine r_if_lt 4 16 rfl dX9_source_1 rfl (fun q__ => absurd q__ (fun q__ => absurd ((nI_ltI (a := kd) (b := 0) (by omega) (by omega)).mp q__) (by omega))) (fun _ => ?_)
  refine r_iload_n 5 rfl 1 dX9_source_4 rfl rfl ?_
  refine r_iconst 6 rfl 5 dX9_source_5 rfl ?_
  refine r_icmp_ge 9 16 rfl dX9_source_6 rfl (fun q__ => absurd q__ (fun q__ => absurd ((nI_leI (a := 5) (b := kd) (by omega) (by omega)).mp q__) (by omega))) (fun _ => ?_)
  refine r_iload_n 10 rfl 2 dX9_source_9 rfl rfl ?_
  refine q_S 13 0 0 rfl [.int y] rfl dX9_source_10 cl_X9_source__X9_isParish (lk_X9_113 rfl) st_X9_isParish (Nat.le_of_ble_eq_true rfl) (fun _ _ => Nat.le_of_ble_eq_true rfl) rfl rfl (Nat.le_of_ble_eq_true rfl) (Nat.le_of_ble_eq_true rfl) ?_
  refine c_isPar_f hy (k_i ?_)
  refine r_if_ne 16 19 rfl dX9_source_13 rfl (fun q__ => absurd (by decide) q__) (fun _ => ?_)
  refine r_bipush 18 rfl (-102) dX9_source_16 (by decide) ?_
  refine r_ireturn rfl dX9_source_18 (Nat.le_of_ble_eq_true rfl) (Nat.le_of_ble_eq_true rfl) ?_
  exact k

set_option maxHeartbeats 4000000 in
set_option maxRecDepth 20000 in
theorem c9_source_o3 {Q : am_P} {z : am_Z} {m : Nat → Nat → Int32} {n : Nat} {kd p : Nat} (hk : kd < 5) (hp : p < 3) {c v : Int32} (hv : v.toInt < 1 ∨ 9 < v.toInt) (k : Q (some (.int (-102))) (wd z m) n) : AW mX9_source Q 0 (am_ent (am_l mX9_source) [.ref 1, .int (nI kd), .int (nI p), .int c, .int v]) [] (wd z m) n 0 0 := by
  show AW _ _ 0 [some (.ref 1), some (.int (nI kd)), some (.int (nI p)), some (.int c), some (.int v)] [] _ _ 0 0
  refine r_iload_n 1 rfl 1 dX9_source_0 rfl rfl ?_
  refine r_if_lt 4 16 rfl dX9_source_1 rfl (fun q__ => absurd q__ (fun q__ => absurd ((nI_ltI (a := kd) (b := 0) (by omega) (by omega)).mp q__) (by omega))) (fun _ => ?_)
  refine r_iload_n 5 rfl 1 dX9_source_4 rfl rfl ?_
  refine r_iconst 6 rfl 5 dX9_source_5 rfl ?_
  refine r_icmp_ge 9 16 rfl dX9_source_6 rfl (fun q__ => absurd q__ (fun q__ => absurd ((nI_leI (a := 5) (b := kd) (by omega) (by omega)).mp q__) (by omega))) (fun _ => ?_)
  refine r_iload_n 10 rfl 2 dX9_source_9 rfl rfl ?_
  refine q_S 13 0 0 rfl [.int (nI p)] rfl dX9_source_10 cl_X9_source__X9_isParish (lk_X9_113 rfl) st_X9_isParish (Nat.le_of_ble_eq_true rfl) (fun _ _ => Nat.le_of_ble_eq_true rfl) rfl rfl (Nat.le_of_ble_eq_true rfl) (Nat.le_of_ble_eq_true rfl) ?_
  refine c_isPar_t hp (k_i ?_)
  refine r_if_ne 16 19 rfl dX9_source_13 rfl (fun _ => ?_) (fun q__ => absurd q__ (by decide))
  refine r_iload 21 rfl dX9_source_19 rfl ?_
  refine r_iconst 22 rfl 1 dX9_source_21 rfl ?_
  refine r_icmp_lt 25 32 rfl dX9_source_22 rfl (fun c22 => ?_) (fun c22 => ?_)
  · replace c22 : v.toInt < (1 : Int) := Int32.lt_iff_toInt_lt.mp c22
    refine r_bipush 34 rfl (-102) dX9_source_32 (by decide) ?_
    refine r_ireturn rfl dX9_source_34 (Nat.le_of_ble_eq_true rfl) (Nat.le_of_ble_eq_true rfl) ?_
    exact k
  · replace c22 : ¬ v.toInt < (1 : Int) := fun q__ => c22 (Int32.lt_iff_toInt_lt.mpr q__)
    refine r_iload 27 rfl dX9_source_25 rfl ?_
    refine r_bipush 29 rfl 9 dX9_source_27 (by decide) ?_
    refine r_icmp_le 32 35 rfl dX9_source_29 rfl (fun c29 => ?_) (fun c29 => ?_)
    · replace c29 : v.toInt ≤ (9 : Int) := Int32.le_iff_toInt_le.mp c29
      exfalso; omega
    · replace c29 : ¬ v.toInt ≤ (9 : Int) := fun q__ => c29 (Int32.le_iff_toInt_le.mpr q__)
      refine r_bipush 34 rfl (-102) dX9_source_32 (by decide) ?_
      refine r_ireturn rfl dX9_source_34 (Nat.le_of_ble_eq_true rfl) (Nat.le_of_ble_eq_true rfl) ?_
      exact k

set_option maxHeartbeats 4000000 in
set_option maxRecDepth 20000 in
theorem c9_source_n {Q : am_P} {z : am_Z} {m : Nat → Nat → Int32} {n : Nat} {D : Nat → Nat → Nat} (hC : C9 z m D){x : Int32} (hx : D 7 0 = 0 ∨ x.toInt < 0 ∨ 8 ≤ x.toInt){kd p sg : Nat} (hk : kd < 5) (hp : p < 3) (hs1 : 1 ≤ sg) (hs9 : sg ≤ 9) (k : Q (some (.int (-101))) (wd z m) n) : AW mX9_source Q 0 (am_ent (am_l mX9_source) [.ref 1, .int (nI kd), .int (nI p), .int x, .int (nI sg)]) [] (wd z m) n 0 0 := by
  show AW _ _ 0 [some (.ref 1), some (.int (nI kd)), some (.int (nI p)), some (.int x), some (.int (nI sg))] [] _ _ 0 0
  obtain ⟨hg, hfd, hf3, hf0, hns, hn6, hsd, hsb, hwi, hw4, hfr, hr1, hhr, hh⟩ := id hC
  refine r_iload_n 1 rfl 1 dX9_source_0 rfl rfl ?_
  refine r_if_lt 4 16 rfl dX9_source_1 rfl (fun q__ => absurd q__ (fun q__ => absurd ((nI_ltI (a := kd) (b := 0) (by omega) (by omega)).mp q__) (by omega))) (fun _ => ?_)
  refine r_iload_n 5 rfl 1 dX9_source_4 rfl rfl ?_
  refine r_iconst 6 rfl 5 dX9_source_5 rfl ?_
  refine r_icmp_ge 9 16 rfl dX9_source_6 rfl (fun q__ => absurd q__ (fun q__ => absurd ((nI_leI (a := 5) (b := kd) (by omega) (by omega)).mp q__) (by omega))) (fun _ => ?_)
  refine r_iload_n 10 rfl 2 dX9_source_9 rfl rfl ?_
  refine q_S 13 0 0 rfl [.int (nI p)] rfl dX9_source_10 cl_X9_source__X9_isParish (lk_X9_113 rfl) st_X9_isParish (Nat.le_of_ble_eq_true rfl) (fun _ _ => Nat.le_of_ble_eq_true rfl) rfl rfl (Nat.le_of_ble_eq_true rfl) (Nat.le_of_ble_eq_true rfl) ?_
  refine c_isPar_t hp (k_i ?_)
  refine r_if_ne 16 19 rfl dX9_source_13 rfl (fun _ => ?_) (fun q__ => absurd q__ (by decide))
  refine r_iload 21 rfl dX9_source_19 rfl ?_
  refine r_iconst 22 rfl 1 dX9_source_21 rfl ?_
  refine r_icmp_lt 25 32 rfl dX9_source_22 rfl (fun q__ => absurd q__ (fun q__ => absurd ((nI_ltI (a := sg) (b := 1) (by omega) (by omega)).mp q__) (by omega))) (fun _ => ?_)
  refine r_iload 27 rfl dX9_source_25 rfl ?_
  refine r_bipush 29 rfl 9 dX9_source_27 (by decide) ?_
  refine r_icmp_le 32 35 rfl dX9_source_29 rfl (fun _ => ?_) (fun q__ => absurd ((nI_leI (a := sg) (b := 9) (by omega) (by omega)).mpr (by omega)) q__)
  refine r_aload_n 36 rfl 0 dX9_source_35 rfl rfl ?_
  refine r_iload_n 37 rfl 3 dX9_source_36 rfl rfl ?_
  refine q_V 40 0 0 rfl [.int x] rfl dX9_source_37 cl_X9_source__X9_isCell (lk_X9_99 rfl) im_X9_isCell (ci := 9) rfl sl_X9__X9_isCell rfl (Nat.le_of_ble_eq_true rfl) (fun _ _ => Nat.le_of_ble_eq_true rfl) rfl rfl (Nat.le_of_ble_eq_true rfl) (Nat.le_of_ble_eq_true rfl) ?_
  refine c_isCell_f hfd hf3 hx (k_i ?_)
  refine r_if_ne 43 46 rfl dX9_source_40 rfl (fun q__ => absurd (by decide) q__) (fun _ => ?_)
  refine r_bipush 45 rfl (-101) dX9_source_43 (by decide) ?_
  refine r_ireturn rfl dX9_source_45 (Nat.le_of_ble_eq_true rfl) (Nat.le_of_ble_eq_true rfl) ?_
  exact k

set_option maxHeartbeats 4000000 in
set_option maxRecDepth 20000 in
theorem c9_source_s {Q : am_P} {z : am_Z} {m : Nat → Nat → Int32} {n : Nat} {D : Nat → Nat → Nat} (hC : C9 z m D){c : Nat} (hc : c < 8) (hf1 : 1 ≤ D 7 0){kd p sg : Nat} (hk : kd < 5) (hp : p < 3) (hs1 : 1 ≤ sg) (hs9 : sg ≤ 9) (hop : ¬ D 0 c = 0) (k : Q (some (.int (-103))) (wd z m) n) : AW mX9_source Q 0 (am_ent (am_l mX9_source) [.ref 1, .int (nI kd), .int (nI p), .int (nI c), .int (nI sg)]) [] (wd z m) n 0 0 := by
  show AW _ _ 0 [some (.ref 1), some (.int (nI kd)), some (.int (nI p)), some (.int (nI c)), some (.int (nI sg))] [] _ _ 0 0
  obtain ⟨hg, hfd, hf3, hf0, hns, hn6, hsd, hsb, hwi, hw4, hfr, hr1, hhr, hh⟩ := id hC
  refine r_iload_n 1 rfl 1 dX9_source_0 rfl rfl ?_
  refine r_if_lt 4 16 rfl dX9_source_1 rfl (fun q__ => absurd q__ (fun q__ => absurd ((nI_ltI (a := kd) (b := 0) (by omega) (by omega)).mp q__) (by omega))) (fun _ => ?_)
  refine r_iload_n 5 rfl 1 dX9_source_4 rfl rfl ?_
  refine r_iconst 6 rfl 5 dX9_source_5 rfl ?_
  refine r_icmp_ge 9 16 rfl dX9_source_6 rfl (fun q__ => absurd q__ (fun q__ => absurd ((nI_leI (a := 5) (b := kd) (by omega) (by omega)).mp q__) (by omega))) (fun _ => ?_)
  refine r_iload_n 10 rfl 2 dX9_source_9 rfl rfl ?_
  refine q_S 13 0 0 rfl [.int (nI p)] rfl dX9_source_10 cl_X9_source__X9_isParish (lk_X9_113 rfl) st_X9_isParish (Nat.le_of_ble_eq_true rfl) (fun _ _ => Nat.le_of_ble_eq_true rfl) rfl rfl (Nat.le_of_ble_eq_true rfl) (Nat.le_of_ble_eq_true rfl) ?_
  refine c_isPar_t hp (k_i ?_)
  refine r_if_ne 16 19 rfl dX9_source_13 rfl (fun _ => ?_) (fun q__ => absurd q__ (by decide))
  refine r_iload 21 rfl dX9_source_19 rfl ?_
  refine r_iconst 22 rfl 1 dX9_source_21 rfl ?_
  refine r_icmp_lt 25 32 rfl dX9_source_22 rfl (fun q__ => absurd q__ (fun q__ => absurd ((nI_ltI (a := sg) (b := 1) (by omega) (by omega)).mp q__) (by omega))) (fun _ => ?_)
  refine r_iload 27 rfl dX9_source_25 rfl ?_
  refine r_bipush 29 rfl 9 dX9_source_27 (by decide) ?_
  refine r_icmp_le 32 35 rfl dX9_source_29 rfl (fun _ => ?_) (fun q__ => absurd ((nI_leI (a := sg) (b := 9) (by omega) (by omega)).mpr (by omega)) q__)
  refine r_aload_n 36 rfl 0 dX9_source_35 rfl rfl ?_
  refine r_iload_n 37 rfl 3 dX9_source_36 rfl rfl ?_
  refine q_V 40 0 0 rfl [.int (nI c)] rfl dX9_source_37 cl_X9_source__X9_isCell (lk_X9_99 rfl) im_X9_isCell (ci := 9) rfl sl_X9__X9_isCell rfl (Nat.le_of_ble_eq_true rfl) (fun _ _ => Nat.le_of_ble_eq_true rfl) rfl rfl (Nat.le_of_ble_eq_true rfl) (Nat.le_of_ble_eq_true rfl) ?_
  refine c_isCell_t hc hfd hf1 hf3 (k_i ?_)
  refine r_if_ne 43 46 rfl dX9_source_40 rfl (fun _ => ?_) (fun q__ => absurd q__ (by decide))
  refine r_aload_n 47 rfl 0 dX9_source_46 rfl rfl ?_
  refine r_getf (v := .ref 4) (k := 1) 50 rfl dX9_source_47 (gf_X9_19_9 rfl) rfl rfl ?_
  refine r_iload_n 51 rfl 3 dX9_source_50 rfl rfl ?_
  refine q_V 54 0 0 rfl [.int (nI c)] rfl dX9_source_51 cl_X9_source__X7_isOpen (lk_X9_116 rfl) im_X7_isOpen (ci := 7) rfl sl_X7__X7_isOpen rfl (Nat.le_of_ble_eq_true rfl) (fun _ _ => Nat.le_of_ble_eq_true rfl) rfl rfl (Nat.le_of_ble_eq_true rfl) (Nat.le_of_ble_eq_true rfl) ?_
  refine c_isOpen_f hC hc hop (k_i ?_)
  refine r_if_ne 57 60 rfl dX9_source_54 rfl (fun q__ => absurd (by decide) q__) (fun _ => ?_)
  refine r_bipush 59 rfl (-103) dX9_source_57 (by decide) ?_
  refine r_ireturn rfl dX9_source_59 (Nat.le_of_ble_eq_true rfl) (Nat.le_of_ble_eq_true rfl) ?_
  exact k

set_option maxHeartbeats 4000000 in
set_option maxRecDepth 20000 in
theorem c9_source_f {Q : am_P} {z : am_Z} {m : Nat → Nat → Int32} {n : Nat} {D : Nat → Nat → Nat} (hC : C9 z m D){c : Nat} (hc : c < 8) (hf1 : 1 ≤ D 7 0){kd p sg : Nat} (hk : kd < 5) (hp : p < 3) (hs1 : 1 ≤ sg) (hs9 : sg ≤ 9) (hop : D 0 c = 0) (h6 : D 7 1 = 6) (k : Q (some (.int (-104))) (wd z m) n) : AW mX9_source Q 0 (am_ent (am_l mX9_source) [.ref 1, .int (nI kd), .int (nI p), .int (nI c), .int (nI sg)]) [] (wd z m) n 0 0 := by
  show AW _ _ 0 [some (.ref 1), some (.int (nI kd)), some (.int (nI p)), some (.int (nI c)), some (.int (nI sg))] [] _ _ 0 0
  obtain ⟨hg, hfd, hf3, hf0, hns, hn6, hsd, hsb, hwi, hw4, hfr, hr1, hhr, hh⟩ := id hC
  refine r_iload_n 1 rfl 1 dX9_source_0 rfl rfl ?_
  refine r_if_lt 4 16 rfl dX9_source_1 rfl (fun q__ => absurd q__ (fun q__ => absurd ((nI_ltI (a := kd) (b := 0) (by omega) (by omega)).mp q__) (by omega))) (fun _ => ?_)
  refine r_iload_n 5 rfl 1 dX9_source_4 rfl rfl ?_
  refine r_iconst 6 rfl 5 dX9_source_5 rfl ?_
  refine r_icmp_ge 9 16 rfl dX9_source_6 rfl (fun q__ => absurd q__ (fun q__ => absurd ((nI_leI (a := 5) (b := kd) (by omega) (by omega)).mp q__) (by omega))) (fun _ => ?_)
  refine r_iload_n 10 rfl 2 dX9_source_9 rfl rfl ?_
  refine q_S 13 0 0 rfl [.int (nI p)] rfl dX9_source_10 cl_X9_source__X9_isParish (lk_X9_113 rfl) st_X9_isParish (Nat.le_of_ble_eq_true rfl) (fun _ _ => Nat.le_of_ble_eq_true rfl) rfl rfl (Nat.le_of_ble_eq_true rfl) (Nat.le_of_ble_eq_true rfl) ?_
  refine c_isPar_t hp (k_i ?_)
  refine r_if_ne 16 19 rfl dX9_source_13 rfl (fun _ => ?_) (fun q__ => absurd q__ (by decide))
  refine r_iload 21 rfl dX9_source_19 rfl ?_
  refine r_iconst 22 rfl 1 dX9_source_21 rfl ?_
  refine r_icmp_lt 25 32 rfl dX9_source_22 rfl (fun q__ => absurd q__ (fun q__ => absurd ((nI_ltI (a := sg) (b := 1) (by omega) (by omega)).mp q__) (by omega))) (fun _ => ?_)
  refine r_iload 27 rfl dX9_source_25 rfl ?_
  refine r_bipush 29 rfl 9 dX9_source_27 (by decide) ?_
  refine r_icmp_le 32 35 rfl dX9_source_29 rfl (fun _ => ?_) (fun q__ => absurd ((nI_leI (a := sg) (b := 9) (by omega) (by omega)).mpr (by omega)) q__)
  refine r_aload_n 36 rfl 0 dX9_source_35 rfl rfl ?_
  refine r_iload_n 37 rfl 3 dX9_source_36 rfl rfl ?_
  refine q_V 40 0 0 rfl [.int (nI c)] rfl dX9_source_37 cl_X9_source__X9_isCell (lk_X9_99 rfl) im_X9_isCell (ci := 9) rfl sl_X9__X9_isCell rfl (Nat.le_of_ble_eq_true rfl) (fun _ _ => Nat.le_of_ble_eq_true rfl) rfl rfl (Nat.le_of_ble_eq_true rfl) (Nat.le_of_ble_eq_true rfl) ?_
  refine c_isCell_t hc hfd hf1 hf3 (k_i ?_)
  refine r_if_ne 43 46 rfl dX9_source_40 rfl (fun _ => ?_) (fun q__ => absurd q__ (by decide))
  refine r_aload_n 47 rfl 0 dX9_source_46 rfl rfl ?_
  refine r_getf (v := .ref 4) (k := 1) 50 rfl dX9_source_47 (gf_X9_19_9 rfl) rfl rfl ?_
  refine r_iload_n 51 rfl 3 dX9_source_50 rfl rfl ?_
  refine q_V 54 0 0 rfl [.int (nI c)] rfl dX9_source_51 cl_X9_source__X7_isOpen (lk_X9_116 rfl) im_X7_isOpen (ci := 7) rfl sl_X7__X7_isOpen rfl (Nat.le_of_ble_eq_true rfl) (fun _ _ => Nat.le_of_ble_eq_true rfl) rfl rfl (Nat.le_of_ble_eq_true rfl) (Nat.le_of_ble_eq_true rfl) ?_
  refine c_isOpen_t hC hc hop (k_i ?_)
  refine r_if_ne 57 60 rfl dX9_source_54 rfl (fun _ => ?_) (fun q__ => absurd q__ (by decide))
  refine r_aload_n 61 rfl 0 dX9_source_60 rfl rfl ?_
  refine r_getf (v := .ref 7) (k := 3) 64 rfl dX9_source_61 (gf_X9_32_9 rfl) rfl rfl ?_
  refine r_getf (v := .int ((m 7) 0)) (k := 0) 67 rfl dX9_source_64 (gf_X9_119_5 rfl) rfl rfl ?_
  rw [show (m 7) 0 = nI (D 7 1) from hns]
  refine r_bipush 69 rfl 6 dX9_source_67 (by decide) ?_
  refine r_icmp_lt 72 75 rfl dX9_source_69 rfl (fun q__ => absurd q__ (fun q__ => absurd ((nI_ltI (a := (D 7 1)) (b := 6) (by omega) (by omega)).mp q__) (by omega))) (fun _ => ?_)
  refine r_bipush 74 rfl (-104) dX9_source_72 (by decide) ?_
  refine r_ireturn rfl dX9_source_74 (Nat.le_of_ble_eq_true rfl) (Nat.le_of_ble_eq_true rfl) ?_
  exact k

set_option maxHeartbeats 4000000 in
set_option maxRecDepth 20000 in
theorem c9_source_t {Q : am_P} {z : am_Z} {m : Nat → Nat → Int32} {n : Nat} {D : Nat → Nat → Nat} (hC : C9 z m D){c : Nat} (hc : c < 8) (hf1 : 1 ≤ D 7 0){kd p sg : Nat} (hk : kd < 5) (hp : p < 3) (hs1 : 1 ≤ sg) (hs9 : sg ≤ 9) (hop : D 0 c = 0) (h6 : D 7 1 < 6) (hn : 53 ≤ n) (k : Q (some (.int (nI (D 7 1)))) (wd (zr (zn z (n + 1) (.inr (.inr (kc kd, [.int (nI p), .int (nI c), .int (nI sg)])))) (D 7 1) (n + 1)) (va_up (va_up (va_up m 8 (upd (m 8) (D 7 1) 1)) 9 (upd (m 9) (D 7 1) 0)) 7 (upd (m 7) 0 (nI (D 7 1 + 1))))) (n + 1)) : AW mX9_source Q 0 (am_ent (am_l mX9_source) [.ref 1, .int (nI kd), .int (nI p), .int (nI c), .int (nI sg)]) [] (wd z m) n 0 0 := by
  show AW _ _ 0 [some (.ref 1), some (.int (nI kd)), some (.int (nI p)), some (.int (nI c)), some (.int (nI sg))] [] _ _ 0 0
  obtain ⟨hg, hfd, hf3, hf0, hns, hn6, hsd, hsb, hwi, hw4, hfr, hr1, hhr, hh⟩ := id hC
  have hsc : am_sc (kc kd) = true := by rcases (show kd = 0 ∨ kd = 1 ∨ kd = 2 ∨ kd = 3 ∨ kd = 4 by omega) with rfl | rfl | rfl | rfl | rfl <;> rfl
  refine r_iload_n 1 rfl 1 dX9_source_0 rfl rfl ?_
  refine r_if_lt 4 16 rfl dX9_source_1 rfl (fun q__ => absurd q__ (fun q__ => absurd ((nI_ltI (a := kd) (b := 0) (by omega) (by omega)).mp q__) (by omega))) (fun _ => ?_)
  refine r_iload_n 5 rfl 1 dX9_source_4 rfl rfl ?_
  refine r_iconst 6 rfl 5 dX9_source_5 rfl ?_
  refine r_icmp_ge 9 16 rfl dX9_source_6 rfl (fun q__ => absurd q__ (fun q__ => absurd ((nI_leI (a := 5) (b := kd) (by omega) (by omega)).mp q__) (by omega))) (fun _ => ?_)
  refine r_iload_n 10 rfl 2 dX9_source_9 rfl rfl ?_
  refine q_S 13 0 0 rfl [.int (nI p)] rfl dX9_source_10 cl_X9_source__X9_isParish (lk_X9_113 rfl) st_X9_isParish (Nat.le_of_ble_eq_true rfl) (fun _ _ => Nat.le_of_ble_eq_true rfl) rfl rfl (Nat.le_of_ble_eq_true rfl) (Nat.le_of_ble_eq_true rfl) ?_
  refine c_isPar_t hp (k_i ?_)
  refine r_if_ne 16 19 rfl dX9_source_13 rfl (fun _ => ?_) (fun q__ => absurd q__ (by decide))
  refine r_iload 21 rfl dX9_source_19 rfl ?_
  refine r_iconst 22 rfl 1 dX9_source_21 rfl ?_
  refine r_icmp_lt 25 32 rfl dX9_source_22 rfl (fun q__ => absurd q__ (fun q__ => absurd ((nI_ltI (a := sg) (b := 1) (by omega) (by omega)).mp q__) (by omega))) (fun _ => ?_)
  refine r_iload 27 rfl dX9_source_25 rfl ?_
  refine r_bipush 29 rfl 9 dX9_source_27 (by decide) ?_
  refine r_icmp_le 32 35 rfl dX9_source_29 rfl (fun _ => ?_) (fun q__ => absurd ((nI_leI (a := sg) (b := 9) (by omega) (by omega)).mpr (by omega)) q__)
  refine r_aload_n 36 rfl 0 dX9_source_35 rfl rfl ?_
  refine r_iload_n 37 rfl 3 dX9_source_36 rfl rfl ?_
  refine q_V 40 0 0 rfl [.int (nI c)] rfl dX9_source_37 cl_X9_source__X9_isCell (lk_X9_99 rfl) im_X9_isCell (ci := 9) rfl sl_X9__X9_isCell rfl (Nat.le_of_ble_eq_true rfl) (fun _ _ => Nat.le_of_ble_eq_true rfl) rfl rfl (Nat.le_of_ble_eq_true rfl) (Nat.le_of_ble_eq_true rfl) ?_
  refine c_isCell_t hc hfd hf1 hf3 (k_i ?_)
  refine r_if_ne 43 46 rfl dX9_source_40 rfl (fun _ => ?_) (fun q__ => absurd q__ (by decide))
  refine r_aload_n 47 rfl 0 dX9_source_46 rfl rfl ?_
  refine r_getf (v := .ref 4) (k := 1) 50 rfl dX9_source_47 (gf_X9_19_9 rfl) rfl rfl ?_
  refine r_iload_n 51 rfl 3 dX9_source_50 rfl rfl ?_
  refine q_V 54 0 0 rfl [.int (nI c)] rfl dX9_source_51 cl_X9_source__X7_isOpen (lk_X9_116 rfl) im_X7_isOpen (ci := 7) rfl sl_X7__X7_isOpen rfl (Nat.le_of_ble_eq_true rfl) (fun _ _ => Nat.le_of_ble_eq_true rfl) rfl rfl (Nat.le_of_ble_eq_true rfl) (Nat.le_of_ble_eq_true rfl) ?_
  refine c_isOpen_t hC hc hop (k_i ?_)
  refine r_if_ne 57 60 rfl dX9_source_54 rfl (fun _ => ?_) (fun q__ => absurd q__ (by decide))
  refine r_aload_n 61 rfl 0 dX9_source_60 rfl rfl ?_
  refine r_getf (v := .ref 7) (k := 3) 64 rfl dX9_source_61 (gf_X9_32_9 rfl) rfl rfl ?_
  refine r_getf (v := .int ((m 7) 0)) (k := 0) 67 rfl dX9_source_64 (gf_X9_119_5 rfl) rfl rfl ?_
  rw [show (m 7) 0 = nI (D 7 1) from hns]
  refine r_bipush 69 rfl 6 dX9_source_67 (by decide) ?_
  refine r_icmp_lt 72 75 rfl dX9_source_69 rfl (fun _ => ?_) (fun q__ => absurd ((nI_ltI (a := (D 7 1)) (b := 6) (by omega) (by omega)).mpr (by omega)) q__)
  refine r_aload_n 76 rfl 0 dX9_source_75 rfl rfl ?_
  refine r_getf (v := .ref 6) (k := 2) 79 rfl dX9_source_76 (gf_X9_25_9 rfl) rfl rfl ?_
  refine r_aload_n 80 rfl 0 dX9_source_79 rfl rfl ?_
  refine r_getf (v := .ref 7) (k := 3) 83 rfl dX9_source_80 (gf_X9_32_9 rfl) rfl rfl ?_
  refine r_getf (v := .int ((m 7) 0)) (k := 0) 86 rfl dX9_source_83 (gf_X9_119_5 rfl) rfl rfl ?_
  rw [show (m 7) 0 = nI (D 7 1) from hns]
  refine r_iload_n 87 rfl 1 dX9_source_86 rfl rfl ?_
  refine r_iload_n 88 rfl 2 dX9_source_87 rfl rfl ?_
  refine r_iload_n 89 rfl 3 dX9_source_88 rfl rfl ?_
  refine r_iload 91 rfl dX9_source_89 rfl ?_
  refine q_S 94 1 3 rfl [.int (nI kd), .int (nI p), .int (nI c), .int (nI sg)] rfl dX9_source_91 cl_X9_source__X9_make (lk_X9_121 rfl) st_X9_make (Nat.le_of_ble_eq_true rfl) (fun _ _ => Nat.le_of_ble_eq_true rfl) rfl rfl (Nat.le_of_ble_eq_true rfl) (Nat.le_of_ble_eq_true rfl) ?_
  refine c_make hk hn (k_r ?_)
  refine w_aast 95 rfl (D 7 1) dX9_source_94 rfl h6 (wd_dy (by omega) (va_up_self _ _ _)) hsc ?_
  refine r_aload_n 96 rfl 0 dX9_source_95 rfl rfl ?_
  refine r_getf (v := .ref 7) (k := 3) 99 rfl dX9_source_96 (gf_X9_32_9 rfl) rfl rfl ?_
  refine q_V 102 1 3 rfl [] rfl dX9_source_99 cl_X9_source__X5_addSource (lk_X9_125 rfl) im_X5_addSource (ci := 5) rfl sl_X5__X5_addSource rfl (Nat.le_of_ble_eq_true rfl) (fun _ _ => Nat.le_of_ble_eq_true rfl) rfl rfl (Nat.le_of_ble_eq_true rfl) (Nat.le_of_ble_eq_true rfl) ?_
  refine c_addSource hns h6 (k_i ?_)
  refine r_ireturn rfl dX9_source_102 (Nat.le_of_ble_eq_true rfl) (Nat.le_of_ble_eq_true rfl) ?_
  exact k

set_option maxHeartbeats 4000000 in
set_option maxRecDepth 20000 in
theorem c10_source_o1 {Q : am_P} {z : am_Z} {m : Nat → Nat → Int32} {n : Nat} {x : Int32} (hx : x.toInt < 0 ∨ 5 ≤ x.toInt) {y c v : Int32} (k : Q (some (.int (-102))) (wd z m) n) : AW mX10_source Q 0 (am_ent (am_l mX10_source) [.ref 37, .int x, .int y, .int c, .int v]) [] (wd z m) n 0 0 := by
  show AW _ _ 0 [some (.ref 37), some (.int x), some (.int y), some (.int c), some (.int v)] [] _ _ 0 0
  refine r_iload_n 1 rfl 1 dX10_source_0 rfl rfl ?_
  refine r_i2l 2 rfl dX10_source_1 ?_
  refine r_lconst 3 rfl 0 dX10_source_2 rfl ?_
  refine r_ldc2 6 rfl 4 dX10_source_3 (cn_X10_113 rfl) ?_
  refine q_S 9 0 0 rfl [.long x.toInt64, .long 0, .long 4] rfl dX10_source_6 cl_X10_source__X10_in (lk_X10_64 rfl) st_X10_in (Nat.le_of_ble_eq_true rfl) (fun _ _ => Nat.le_of_ble_eq_true rfl) rfl rfl (Nat.le_of_ble_eq_true rfl) (Nat.le_of_ble_eq_true rfl) ?_
  refine c_in_f (show x.toInt64.toInt < (0 : Int) ∨ (4 : Int) < x.toInt64.toInt by rw [Int32.toInt_toInt64]; omega) (k_i ?_)
  refine r_if_eq 12 37 rfl dX10_source_9 rfl (fun _ => ?_) (fun q__ => absurd (by decide) q__)
  refine r_bipush 39 rfl (-102) dX10_source_37 (by decide) ?_
  refine r_ireturn rfl dX10_source_39 (Nat.le_of_ble_eq_true rfl) (Nat.le_of_ble_eq_true rfl) ?_
  exact k

set_option maxHeartbeats 4000000 in
set_option maxRecDepth 20000 in
theorem c10_source_o2 {Q : am_P} {z : am_Z} {m : Nat → Nat → Int32} {n : Nat} {kd : Nat} (hk : kd < 5) {y : Int32} (hy : y.toInt < 0 ∨ 3 ≤ y.toInt) {c v : Int32} (k : Q (some (.int (-102))) (wd z m) n) : AW mX10_source Q 0 (am_ent (am_l mX10_source) [.ref 37, .int (nI kd), .int y, .int c, .int v]) [] (wd z m) n 0 0 := by
  show AW _ _ 0 [some (.ref 37), some (.int (nI kd)), some (.int y), some (.int c), some (.int v)] [] _ _ 0 0
  refine r_iload_n 1 rfl 1 dX10_source_0 rfl rfl ?_
  refine r_i2l 2 rfl dX10_source_1 ?_
  refine r_lconst 3 rfl 0 dX10_source_2 rfl ?_
  refine r_ldc2 6 rfl 4 dX10_source_3 (cn_X10_113 rfl) ?_
  refine q_S 9 0 0 rfl [.long ((nI kd).toInt64), .long 0, .long 4] rfl dX10_source_6 cl_X10_source__X10_in (lk_X10_64 rfl) st_X10_in (Nat.le_of_ble_eq_true rfl) (fun _ _ => Nat.le_of_ble_eq_true rfl) rfl rfl (Nat.le_of_ble_eq_true rfl) (Nat.le_of_ble_eq_true rfl) ?_
  refine c_in_t (show (0 : Int) ≤ (nI kd).toInt64.toInt by rw [Int32.toInt_toInt64, nI_toInt (by omega)]; omega) (show (nI kd).toInt64.toInt ≤ (4 : Int) by rw [Int32.toInt_toInt64, nI_toInt (by omega)]; omega) (k_i ?_)
  refine r_if_eq 12 37 rfl dX10_source_9 rfl (fun q__ => absurd q__ (by decide)) (fun _ => ?_)
  refine r_iload_n 13 rfl 2 dX10_source_12 rfl rfl ?_
  refine r_i2l 14 rfl dX10_source_13 ?_
  refine r_lconst 15 rfl 0 dX10_source_14 rfl ?_
  refine r_ldc2 18 rfl 2 dX10_source_15 (cn_X10_115 rfl) ?_
  refine q_S 21 0 0 rfl [.long y.toInt64, .long 0, .long 2] rfl dX10_source_18 cl_X10_source__X10_in (lk_X10_64 rfl) st_X10_in (Nat.le_of_ble_eq_true rfl) (fun _ _ => Nat.le_of_ble_eq_true rfl) rfl rfl (Nat.le_of_ble_eq_true rfl) (Nat.le_of_ble_eq_true rfl) ?_
  refine c_in_f (show y.toInt64.toInt < (0 : Int) ∨ (2 : Int) < y.toInt64.toInt by rw [Int32.toInt_toInt64]; omega) (k_i ?_)
  refine r_if_eq 24 37 rfl dX10_source_21 rfl (fun _ => ?_) (fun q__ => absurd (by decide) q__)
  refine r_bipush 39 rfl (-102) dX10_source_37 (by decide) ?_
  refine r_ireturn rfl dX10_source_39 (Nat.le_of_ble_eq_true rfl) (Nat.le_of_ble_eq_true rfl) ?_
  exact k

set_option maxHeartbeats 4000000 in
set_option maxRecDepth 20000 in
theorem c10_source_o3 {Q : am_P} {z : am_Z} {m : Nat → Nat → Int32} {n : Nat} {kd p : Nat} (hk : kd < 5) (hp : p < 3) {c v : Int32} (hv : v.toInt < 1 ∨ 9 < v.toInt) (k : Q (some (.int (-102))) (wd z m) n) : AW mX10_source Q 0 (am_ent (am_l mX10_source) [.ref 37, .int (nI kd), .int (nI p), .int c, .int v]) [] (wd z m) n 0 0 := by
  show AW _ _ 0 [some (.ref 37), some (.int (nI kd)), some (.int (nI p)), some (.int c), some (.int v)] [] _ _ 0 0
  refine r_iload_n 1 rfl 1 dX10_source_0 rfl rfl ?_
  refine r_i2l 2 rfl dX10_source_1 ?_
  refine r_lconst 3 rfl 0 dX10_source_2 rfl ?_
  refine r_ldc2 6 rfl 4 dX10_source_3 (cn_X10_113 rfl) ?_
  refine q_S 9 0 0 rfl [.long ((nI kd).toInt64), .long 0, .long 4] rfl dX10_source_6 cl_X10_source__X10_in (lk_X10_64 rfl) st_X10_in (Nat.le_of_ble_eq_true rfl) (fun _ _ => Nat.le_of_ble_eq_true rfl) rfl rfl (Nat.le_of_ble_eq_true rfl) (Nat.le_of_ble_eq_true rfl) ?_
  refine c_in_t (show (0 : Int) ≤ (nI kd).toInt64.toInt by rw [Int32.toInt_toInt64, nI_toInt (by omega)]; omega) (show (nI kd).toInt64.toInt ≤ (4 : Int) by rw [Int32.toInt_toInt64, nI_toInt (by omega)]; omega) (k_i ?_)
  refine r_if_eq 12 37 rfl dX10_source_9 rfl (fun q__ => absurd q__ (by decide)) (fun _ => ?_)
  refine r_iload_n 13 rfl 2 dX10_source_12 rfl rfl ?_
  refine r_i2l 14 rfl dX10_source_13 ?_
  refine r_lconst 15 rfl 0 dX10_source_14 rfl ?_
  refine r_ldc2 18 rfl 2 dX10_source_15 (cn_X10_115 rfl) ?_
  refine q_S 21 0 0 rfl [.long ((nI p).toInt64), .long 0, .long 2] rfl dX10_source_18 cl_X10_source__X10_in (lk_X10_64 rfl) st_X10_in (Nat.le_of_ble_eq_true rfl) (fun _ _ => Nat.le_of_ble_eq_true rfl) rfl rfl (Nat.le_of_ble_eq_true rfl) (Nat.le_of_ble_eq_true rfl) ?_
  refine c_in_t (show (0 : Int) ≤ (nI p).toInt64.toInt by rw [Int32.toInt_toInt64, nI_toInt (by omega)]; omega) (show (nI p).toInt64.toInt ≤ (2 : Int) by rw [Int32.toInt_toInt64, nI_toInt (by omega)]; omega) (k_i ?_)
  refine r_if_eq 24 37 rfl dX10_source_21 rfl (fun q__ => absurd q__ (by decide)) (fun _ => ?_)
  refine r_iload 26 rfl dX10_source_24 rfl ?_
  refine r_i2l 27 rfl dX10_source_26 ?_
  refine r_lconst 28 rfl 1 dX10_source_27 rfl ?_
  refine r_ldc2 31 rfl 9 dX10_source_28 (cn_X10_117 rfl) ?_
  refine q_S 34 0 0 rfl [.long v.toInt64, .long 1, .long 9] rfl dX10_source_31 cl_X10_source__X10_in (lk_X10_64 rfl) st_X10_in (Nat.le_of_ble_eq_true rfl) (fun _ _ => Nat.le_of_ble_eq_true rfl) rfl rfl (Nat.le_of_ble_eq_true rfl) (Nat.le_of_ble_eq_true rfl) ?_
  refine c_in_f (show v.toInt64.toInt < (1 : Int) ∨ (9 : Int) < v.toInt64.toInt by rw [Int32.toInt_toInt64]; omega) (k_i ?_)
  refine r_if_ne 37 40 rfl dX10_source_34 rfl (fun q__ => absurd (by decide) q__) (fun _ => ?_)
  refine r_bipush 39 rfl (-102) dX10_source_37 (by decide) ?_
  refine r_ireturn rfl dX10_source_39 (Nat.le_of_ble_eq_true rfl) (Nat.le_of_ble_eq_true rfl) ?_
  exact k

set_option maxHeartbeats 4000000 in
set_option maxRecDepth 20000 in
theorem c10_source_n {Q : am_P} {z : am_Z} {m : Nat → Nat → Int32} {n : Nat} {D : Nat → Nat → Nat} (hC : C10 m D){x : Int32} (hx : D 7 0 = 0 ∨ x.toInt < 0 ∨ 8 ≤ x.toInt){kd p sg : Nat} (hk : kd < 5) (hp : p < 3) (hs1 : 1 ≤ sg) (hs9 : sg ≤ 9) (k : Q (some (.int (-101))) (wd z m) n) : AW mX10_source Q 0 (am_ent (am_l mX10_source) [.ref 37, .int (nI kd), .int (nI p), .int x, .int (nI sg)]) [] (wd z m) n 0 0 := by
  show AW _ _ 0 [some (.ref 37), some (.int (nI kd)), some (.int (nI p)), some (.int x), some (.int (nI sg))] [] _ _ 0 0
  obtain ⟨hg, hfd, hf3, hf0, hns, hn7, hmr, hwi, hw4, hfr, hr1, hhr, hh⟩ := id hC
  refine r_iload_n 1 rfl 1 dX10_source_0 rfl rfl ?_
  refine r_i2l 2 rfl dX10_source_1 ?_
  refine r_lconst 3 rfl 0 dX10_source_2 rfl ?_
  refine r_ldc2 6 rfl 4 dX10_source_3 (cn_X10_113 rfl) ?_
  refine q_S 9 0 0 rfl [.long ((nI kd).toInt64), .long 0, .long 4] rfl dX10_source_6 cl_X10_source__X10_in (lk_X10_64 rfl) st_X10_in (Nat.le_of_ble_eq_true rfl) (fun _ _ => Nat.le_of_ble_eq_true rfl) rfl rfl (Nat.le_of_ble_eq_true rfl) (Nat.le_of_ble_eq_true rfl) ?_
  refine c_in_t (show (0 : Int) ≤ (nI kd).toInt64.toInt by rw [Int32.toInt_toInt64, nI_toInt (by omega)]; omega) (show (nI kd).toInt64.toInt ≤ (4 : Int) by rw [Int32.toInt_toInt64, nI_toInt (by omega)]; omega) (k_i ?_)
  refine r_if_eq 12 37 rfl dX10_source_9 rfl (fun q__ => absurd q__ (by decide)) (fun _ => ?_)
  refine r_iload_n 13 rfl 2 dX10_source_12 rfl rfl ?_
  refine r_i2l 14 rfl dX10_source_13 ?_
  refine r_lconst 15 rfl 0 dX10_source_14 rfl ?_
  refine r_ldc2 18 rfl 2 dX10_source_15 (cn_X10_115 rfl) ?_
  refine q_S 21 0 0 rfl [.long ((nI p).toInt64), .long 0, .long 2] rfl dX10_source_18 cl_X10_source__X10_in (lk_X10_64 rfl) st_X10_in (Nat.le_of_ble_eq_true rfl) (fun _ _ => Nat.le_of_ble_eq_true rfl) rfl rfl (Nat.le_of_ble_eq_true rfl) (Nat.le_of_ble_eq_true rfl) ?_
  refine c_in_t (show (0 : Int) ≤ (nI p).toInt64.toInt by rw [Int32.toInt_toInt64, nI_toInt (by omega)]; omega) (show (nI p).toInt64.toInt ≤ (2 : Int) by rw [Int32.toInt_toInt64, nI_toInt (by omega)]; omega) (k_i ?_)
  refine r_if_eq 24 37 rfl dX10_source_21 rfl (fun q__ => absurd q__ (by decide)) (fun _ => ?_)
  refine r_iload 26 rfl dX10_source_24 rfl ?_
  refine r_i2l 27 rfl dX10_source_26 ?_
  refine r_lconst 28 rfl 1 dX10_source_27 rfl ?_
  refine r_ldc2 31 rfl 9 dX10_source_28 (cn_X10_117 rfl) ?_
  refine q_S 34 0 0 rfl [.long ((nI sg).toInt64), .long 1, .long 9] rfl dX10_source_31 cl_X10_source__X10_in (lk_X10_64 rfl) st_X10_in (Nat.le_of_ble_eq_true rfl) (fun _ _ => Nat.le_of_ble_eq_true rfl) rfl rfl (Nat.le_of_ble_eq_true rfl) (Nat.le_of_ble_eq_true rfl) ?_
  refine c_in_t (show (1 : Int) ≤ (nI sg).toInt64.toInt by rw [Int32.toInt_toInt64, nI_toInt (by omega)]; omega) (show (nI sg).toInt64.toInt ≤ (9 : Int) by rw [Int32.toInt_toInt64, nI_toInt (by omega)]; omega) (k_i ?_)
  refine r_if_ne 37 40 rfl dX10_source_34 rfl (fun _ => ?_) (fun q__ => absurd q__ (by decide))
  refine r_aload_n 41 rfl 0 dX10_source_40 rfl rfl ?_
  refine r_iload_n 42 rfl 3 dX10_source_41 rfl rfl ?_
  refine q_V 45 0 0 rfl [.int x] rfl dX10_source_42 cl_X10_source__X10_isCell (lk_X10_119 rfl) im_X10_isCell (ci := 10) rfl sl_X10__X10_isCell rfl (Nat.le_of_ble_eq_true rfl) (fun _ _ => Nat.le_of_ble_eq_true rfl) rfl rfl (Nat.le_of_ble_eq_true rfl) (Nat.le_of_ble_eq_true rfl) ?_
  refine c10_isCell_f hfd hf3 hx (k_i ?_)
  refine r_if_ne 48 51 rfl dX10_source_45 rfl (fun q__ => absurd (by decide) q__) (fun _ => ?_)
  refine r_bipush 50 rfl (-101) dX10_source_48 (by decide) ?_
  refine r_ireturn rfl dX10_source_50 (Nat.le_of_ble_eq_true rfl) (Nat.le_of_ble_eq_true rfl) ?_
  exact k

set_option maxHeartbeats 4000000 in
set_option maxRecDepth 20000 in
theorem c10_source_s {Q : am_P} {z : am_Z} {m : Nat → Nat → Int32} {n : Nat} {D : Nat → Nat → Nat} (hC : C10 m D){c : Nat} (hc : c < 8) (hf1 : 1 ≤ D 7 0){kd p sg : Nat} (hk : kd < 5) (hp : p < 3) (hs1 : 1 ≤ sg) (hs9 : sg ≤ 9) (hop : ¬ D 0 c = 0) (k : Q (some (.int (-103))) (wd z m) n) : AW mX10_source Q 0 (am_ent (am_l mX10_source) [.ref 37, .int (nI kd), .int (nI p), .int (nI c), .int (nI sg)]) [] (wd z m) n 0 0 := by
  show AW _ _ 0 [some (.ref 37), some (.int (nI kd)), some (.int (nI p)), some (.int (nI c)), some (.int (nI sg))] [] _ _ 0 0
  obtain ⟨hg, hfd, hf3, hf0, hns, hn7, hmr, hwi, hw4, hfr, hr1, hhr, hh⟩ := id hC
  have hgc := (hg c hc).2
  refine r_iload_n 1 rfl 1 dX10_source_0 rfl rfl ?_
  refine r_i2l 2 rfl dX10_source_1 ?_
  refine r_lconst 3 rfl 0 dX10_source_2 rfl ?_
  refine r_ldc2 6 rfl 4 dX10_source_3 (cn_X10_113 rfl) ?_
  refine q_S 9 0 0 rfl [.long ((nI kd).toInt64), .long 0, .long 4] rfl dX10_source_6 cl_X10_source__X10_in (lk_X10_64 rfl) st_X10_in (Nat.le_of_ble_eq_true rfl) (fun _ _ => Nat.le_of_ble_eq_true rfl) rfl rfl (Nat.le_of_ble_eq_true rfl) (Nat.le_of_ble_eq_true rfl) ?_
  refine c_in_t (show (0 : Int) ≤ (nI kd).toInt64.toInt by rw [Int32.toInt_toInt64, nI_toInt (by omega)]; omega) (show (nI kd).toInt64.toInt ≤ (4 : Int) by rw [Int32.toInt_toInt64, nI_toInt (by omega)]; omega) (k_i ?_)
  refine r_if_eq 12 37 rfl dX10_source_9 rfl (fun q__ => absurd q__ (by decide)) (fun _ => ?_)
  refine r_iload_n 13 rfl 2 dX10_source_12 rfl rfl ?_
  refine r_i2l 14 rfl dX10_source_13 ?_
  refine r_lconst 15 rfl 0 dX10_source_14 rfl ?_
  refine r_ldc2 18 rfl 2 dX10_source_15 (cn_X10_115 rfl) ?_
  refine q_S 21 0 0 rfl [.long ((nI p).toInt64), .long 0, .long 2] rfl dX10_source_18 cl_X10_source__X10_in (lk_X10_64 rfl) st_X10_in (Nat.le_of_ble_eq_true rfl) (fun _ _ => Nat.le_of_ble_eq_true rfl) rfl rfl (Nat.le_of_ble_eq_true rfl) (Nat.le_of_ble_eq_true rfl) ?_
  refine c_in_t (show (0 : Int) ≤ (nI p).toInt64.toInt by rw [Int32.toInt_toInt64, nI_toInt (by omega)]; omega) (show (nI p).toInt64.toInt ≤ (2 : Int) by rw [Int32.toInt_toInt64, nI_toInt (by omega)]; omega) (k_i ?_)
  refine r_if_eq 24 37 rfl dX10_source_21 rfl (fun q__ => absurd q__ (by decide)) (fun _ => ?_)
  refine r_iload 26 rfl dX10_source_24 rfl ?_
  refine r_i2l 27 rfl dX10_source_26 ?_
  refine r_lconst 28 rfl 1 dX10_source_27 rfl ?_
  refine r_ldc2 31 rfl 9 dX10_source_28 (cn_X10_117 rfl) ?_
  refine q_S 34 0 0 rfl [.long ((nI sg).toInt64), .long 1, .long 9] rfl dX10_source_31 cl_X10_source__X10_in (lk_X10_64 rfl) st_X10_in (Nat.le_of_ble_eq_true rfl) (fun _ _ => Nat.le_of_ble_eq_true rfl) rfl rfl (Nat.le_of_ble_eq_true rfl) (Nat.le_of_ble_eq_true rfl) ?_
  refine c_in_t (show (1 : Int) ≤ (nI sg).toInt64.toInt by rw [Int32.toInt_toInt64, nI_toInt (by omega)]; omega) (show (nI sg).toInt64.toInt ≤ (9 : Int) by rw [Int32.toInt_toInt64, nI_toInt (by omega)]; omega) (k_i ?_)
  refine r_if_ne 37 40 rfl dX10_source_34 rfl (fun _ => ?_) (fun q__ => absurd q__ (by decide))
  refine r_aload_n 41 rfl 0 dX10_source_40 rfl rfl ?_
  refine r_iload_n 42 rfl 3 dX10_source_41 rfl rfl ?_
  refine q_V 45 0 0 rfl [.int (nI c)] rfl dX10_source_42 cl_X10_source__X10_isCell (lk_X10_119 rfl) im_X10_isCell (ci := 10) rfl sl_X10__X10_isCell rfl (Nat.le_of_ble_eq_true rfl) (fun _ _ => Nat.le_of_ble_eq_true rfl) rfl rfl (Nat.le_of_ble_eq_true rfl) (Nat.le_of_ble_eq_true rfl) ?_
  refine c10_isCell_t hc hfd hf1 hf3 (k_i ?_)
  refine r_if_ne 48 51 rfl dX10_source_45 rfl (fun _ => ?_) (fun q__ => absurd q__ (by decide))
  refine r_aload_n 52 rfl 0 dX10_source_51 rfl rfl ?_
  refine r_getf (v := .ref 39) (k := 7) 55 rfl dX10_source_52 (gf_X10_13_10 rfl) rfl rfl ?_
  refine r_iload_n 56 rfl 3 dX10_source_55 rfl rfl ?_
  refine r_iald (f := m 39) 57 rfl c dX10_source_56 rfl rfl (by omega) (by decide) ?_
  rw [show (m 39) c = nI (D 0 c) from (hg c hc).1]
  refine r_if_eq 60 63 rfl dX10_source_57 rfl (fun q__ => absurd q__ (fun q__ => absurd ((nI_eq (a := (D 0 c)) (b := 0) (by omega) (by omega)).mp q__) (by omega))) (fun _ => ?_)
  refine r_bipush 62 rfl (-103) dX10_source_60 (by decide) ?_
  refine r_ireturn rfl dX10_source_62 (Nat.le_of_ble_eq_true rfl) (Nat.le_of_ble_eq_true rfl) ?_
  exact k

set_option maxHeartbeats 4000000 in
set_option maxRecDepth 20000 in
theorem c10_source_f {Q : am_P} {z : am_Z} {m : Nat → Nat → Int32} {n : Nat} {D : Nat → Nat → Nat} (hC : C10 m D){c : Nat} (hc : c < 8) (hf1 : 1 ≤ D 7 0){kd p sg : Nat} (hk : kd < 5) (hp : p < 3) (hs1 : 1 ≤ sg) (hs9 : sg ≤ 9) (hop : D 0 c = 0) (h6 : D 7 1 = 6) (k : Q (some (.int (-104))) (wd z m) n) : AW mX10_source Q 0 (am_ent (am_l mX10_source) [.ref 37, .int (nI kd), .int (nI p), .int (nI c), .int (nI sg)]) [] (wd z m) n 0 0 := by
  show AW _ _ 0 [some (.ref 37), some (.int (nI kd)), some (.int (nI p)), some (.int (nI c)), some (.int (nI sg))] [] _ _ 0 0
  obtain ⟨hg, hfd, hf3, hf0, hns, hn7, hmr, hwi, hw4, hfr, hr1, hhr, hh⟩ := id hC
  have hgc := (hg c hc).2
  refine r_iload_n 1 rfl 1 dX10_source_0 rfl rfl ?_
  refine r_i2l 2 rfl dX10_source_1 ?_
  refine r_lconst 3 rfl 0 dX10_source_2 rfl ?_
  refine r_ldc2 6 rfl 4 dX10_source_3 (cn_X10_113 rfl) ?_
  refine q_S 9 0 0 rfl [.long ((nI kd).toInt64), .long 0, .long 4] rfl dX10_source_6 cl_X10_source__X10_in (lk_X10_64 rfl) st_X10_in (Nat.le_of_ble_eq_true rfl) (fun _ _ => Nat.le_of_ble_eq_true rfl) rfl rfl (Nat.le_of_ble_eq_true rfl) (Nat.le_of_ble_eq_true rfl) ?_
  refine c_in_t (show (0 : Int) ≤ (nI kd).toInt64.toInt by rw [Int32.toInt_toInt64, nI_toInt (by omega)]; omega) (show (nI kd).toInt64.toInt ≤ (4 : Int) by rw [Int32.toInt_toInt64, nI_toInt (by omega)]; omega) (k_i ?_)
  refine r_if_eq 12 37 rfl dX10_source_9 rfl (fun q__ => absurd q__ (by decide)) (fun _ => ?_)
  refine r_iload_n 13 rfl 2 dX10_source_12 rfl rfl ?_
  refine r_i2l 14 rfl dX10_source_13 ?_
  refine r_lconst 15 rfl 0 dX10_source_14 rfl ?_
  refine r_ldc2 18 rfl 2 dX10_source_15 (cn_X10_115 rfl) ?_
  refine q_S 21 0 0 rfl [.long ((nI p).toInt64), .long 0, .long 2] rfl dX10_source_18 cl_X10_source__X10_in (lk_X10_64 rfl) st_X10_in (Nat.le_of_ble_eq_true rfl) (fun _ _ => Nat.le_of_ble_eq_true rfl) rfl rfl (Nat.le_of_ble_eq_true rfl) (Nat.le_of_ble_eq_true rfl) ?_
  refine c_in_t (show (0 : Int) ≤ (nI p).toInt64.toInt by rw [Int32.toInt_toInt64, nI_toInt (by omega)]; omega) (show (nI p).toInt64.toInt ≤ (2 : Int) by rw [Int32.toInt_toInt64, nI_toInt (by omega)]; omega) (k_i ?_)
  refine r_if_eq 24 37 rfl dX10_source_21 rfl (fun q__ => absurd q__ (by decide)) (fun _ => ?_)
  refine r_iload 26 rfl dX10_source_24 rfl ?_
  refine r_i2l 27 rfl dX10_source_26 ?_
  refine r_lconst 28 rfl 1 dX10_source_27 rfl ?_
  refine r_ldc2 31 rfl 9 dX10_source_28 (cn_X10_117 rfl) ?_
  refine q_S 34 0 0 rfl [.long ((nI sg).toInt64), .long 1, .long 9] rfl dX10_source_31 cl_X10_source__X10_in (lk_X10_64 rfl) st_X10_in (Nat.le_of_ble_eq_true rfl) (fun _ _ => Nat.le_of_ble_eq_true rfl) rfl rfl (Nat.le_of_ble_eq_true rfl) (Nat.le_of_ble_eq_true rfl) ?_
  refine c_in_t (show (1 : Int) ≤ (nI sg).toInt64.toInt by rw [Int32.toInt_toInt64, nI_toInt (by omega)]; omega) (show (nI sg).toInt64.toInt ≤ (9 : Int) by rw [Int32.toInt_toInt64, nI_toInt (by omega)]; omega) (k_i ?_)
  refine r_if_ne 37 40 rfl dX10_source_34 rfl (fun _ => ?_) (fun q__ => absurd q__ (by decide))
  refine r_aload_n 41 rfl 0 dX10_source_40 rfl rfl ?_
  refine r_iload_n 42 rfl 3 dX10_source_41 rfl rfl ?_
  refine q_V 45 0 0 rfl [.int (nI c)] rfl dX10_source_42 cl_X10_source__X10_isCell (lk_X10_119 rfl) im_X10_isCell (ci := 10) rfl sl_X10__X10_isCell rfl (Nat.le_of_ble_eq_true rfl) (fun _ _ => Nat.le_of_ble_eq_true rfl) rfl rfl (Nat.le_of_ble_eq_true rfl) (Nat.le_of_ble_eq_true rfl) ?_
  refine c10_isCell_t hc hfd hf1 hf3 (k_i ?_)
  refine r_if_ne 48 51 rfl dX10_source_45 rfl (fun _ => ?_) (fun q__ => absurd q__ (by decide))
  refine r_aload_n 52 rfl 0 dX10_source_51 rfl rfl ?_
  refine r_getf (v := .ref 39) (k := 7) 55 rfl dX10_source_52 (gf_X10_13_10 rfl) rfl rfl ?_
  refine r_iload_n 56 rfl 3 dX10_source_55 rfl rfl ?_
  refine r_iald (f := m 39) 57 rfl c dX10_source_56 rfl rfl (by omega) (by decide) ?_
  rw [show (m 39) c = nI (D 0 c) from (hg c hc).1]
  refine r_if_eq 60 63 rfl dX10_source_57 rfl (fun _ => ?_) (fun q__ => absurd ((nI_eq (a := (D 0 c)) (b := 0) (by omega) (by omega)).mpr (by omega)) q__)
  refine r_aload_n 64 rfl 0 dX10_source_63 rfl rfl ?_
  refine r_getf (v := .int ((m 37) 10)) (k := 10) 67 rfl dX10_source_64 (gf_X10_95_10 rfl) rfl rfl ?_
  rw [show (m 37) 10 = nI (D 7 1) from hns]
  refine r_bipush 69 rfl 6 dX10_source_67 (by decide) ?_
  refine r_icmp_ne 72 75 rfl dX10_source_69 rfl (fun q__ => absurd ((nI_eq (a := (D 7 1)) (b := 6) (by omega) (by omega)).mpr (by omega)) q__) (fun _ => ?_)
  refine r_bipush 74 rfl (-104) dX10_source_72 (by decide) ?_
  refine r_ireturn rfl dX10_source_74 (Nat.le_of_ble_eq_true rfl) (Nat.le_of_ble_eq_true rfl) ?_
  exact k

set_option maxHeartbeats 4000000 in
set_option maxRecDepth 20000 in
theorem c10_source_t {Q : am_P} {z : am_Z} {m : Nat → Nat → Int32} {n : Nat} {D : Nat → Nat → Nat} (hC : C10 m D){c : Nat} (hc : c < 8) (hf1 : 1 ≤ D 7 0){kd p sg : Nat} (hk : kd < 5) (hp : p < 3) (hs1 : 1 ≤ sg) (hs9 : sg ≤ 9) (hop : D 0 c = 0) (h6 : D 7 1 < 6) (k : ∀ m', m' 42 (6 * D 7 1) = nI kd → m' 42 (6 * D 7 1 + 1) = nI p → m' 42 (6 * D 7 1 + 2) = nI c → m' 42 (6 * D 7 1 + 3) = nI sg → m' 42 (6 * D 7 1 + 4) = 1 → m' 42 (6 * D 7 1 + 5) = 0 → (∀ j, j < 6 * D 7 1 → m' 42 j = m 42 j) → m' 37 = upd (m 37) 10 (nI (D 7 1 + 1)) → ag [37, 42] m m' → Q (some (.int (nI (D 7 1)))) (wd z m') n) : AW mX10_source Q 0 (am_ent (am_l mX10_source) [.ref 37, .int (nI kd), .int (nI p), .int (nI c), .int (nI sg)]) [] (wd z m) n 0 0 := by
  show AW _ _ 0 [some (.ref 37), some (.int (nI kd)), some (.int (nI p)), some (.int (nI c)), some (.int (nI sg))] [] _ _ 0 0
  obtain ⟨hg, hfd, hf3, hf0, hns, hn7, hmr, hwi, hw4, hfr, hr1, hhr, hh⟩ := id hC
  have hgc := (hg c hc).2
  refine r_iload_n 1 rfl 1 dX10_source_0 rfl rfl ?_
  refine r_i2l 2 rfl dX10_source_1 ?_
  refine r_lconst 3 rfl 0 dX10_source_2 rfl ?_
  refine r_ldc2 6 rfl 4 dX10_source_3 (cn_X10_113 rfl) ?_
  refine q_S 9 0 0 rfl [.long ((nI kd).toInt64), .long 0, .long 4] rfl dX10_source_6 cl_X10_source__X10_in (lk_X10_64 rfl) st_X10_in (Nat.le_of_ble_eq_true rfl) (fun _ _ => Nat.le_of_ble_eq_true rfl) rfl rfl (Nat.le_of_ble_eq_true rfl) (Nat.le_of_ble_eq_true rfl) ?_
  refine c_in_t (show (0 : Int) ≤ (nI kd).toInt64.toInt by rw [Int32.toInt_toInt64, nI_toInt (by omega)]; omega) (show (nI kd).toInt64.toInt ≤ (4 : Int) by rw [Int32.toInt_toInt64, nI_toInt (by omega)]; omega) (k_i ?_)
  refine r_if_eq 12 37 rfl dX10_source_9 rfl (fun q__ => absurd q__ (by decide)) (fun _ => ?_)
  refine r_iload_n 13 rfl 2 dX10_source_12 rfl rfl ?_
  refine r_i2l 14 rfl dX10_source_13 ?_
  refine r_lconst 15 rfl 0 dX10_source_14 rfl ?_
  refine r_ldc2 18 rfl 2 dX10_source_15 (cn_X10_115 rfl) ?_
  refine q_S 21 0 0 rfl [.long ((nI p).toInt64), .long 0, .long 2] rfl dX10_source_18 cl_X10_source__X10_in (lk_X10_64 rfl) st_X10_in (Nat.le_of_ble_eq_true rfl) (fun _ _ => Nat.le_of_ble_eq_true rfl) rfl rfl (Nat.le_of_ble_eq_true rfl) (Nat.le_of_ble_eq_true rfl) ?_
  refine c_in_t (show (0 : Int) ≤ (nI p).toInt64.toInt by rw [Int32.toInt_toInt64, nI_toInt (by omega)]; omega) (show (nI p).toInt64.toInt ≤ (2 : Int) by rw [Int32.toInt_toInt64, nI_toInt (by omega)]; omega) (k_i ?_)
  refine r_if_eq 24 37 rfl dX10_source_21 rfl (fun q__ => absurd q__ (by decide)) (fun _ => ?_)
  refine r_iload 26 rfl dX10_source_24 rfl ?_
  refine r_i2l 27 rfl dX10_source_26 ?_
  refine r_lconst 28 rfl 1 dX10_source_27 rfl ?_
  refine r_ldc2 31 rfl 9 dX10_source_28 (cn_X10_117 rfl) ?_
  refine q_S 34 0 0 rfl [.long ((nI sg).toInt64), .long 1, .long 9] rfl dX10_source_31 cl_X10_source__X10_in (lk_X10_64 rfl) st_X10_in (Nat.le_of_ble_eq_true rfl) (fun _ _ => Nat.le_of_ble_eq_true rfl) rfl rfl (Nat.le_of_ble_eq_true rfl) (Nat.le_of_ble_eq_true rfl) ?_
  refine c_in_t (show (1 : Int) ≤ (nI sg).toInt64.toInt by rw [Int32.toInt_toInt64, nI_toInt (by omega)]; omega) (show (nI sg).toInt64.toInt ≤ (9 : Int) by rw [Int32.toInt_toInt64, nI_toInt (by omega)]; omega) (k_i ?_)
  refine r_if_ne 37 40 rfl dX10_source_34 rfl (fun _ => ?_) (fun q__ => absurd q__ (by decide))
  refine r_aload_n 41 rfl 0 dX10_source_40 rfl rfl ?_
  refine r_iload_n 42 rfl 3 dX10_source_41 rfl rfl ?_
  refine q_V 45 0 0 rfl [.int (nI c)] rfl dX10_source_42 cl_X10_source__X10_isCell (lk_X10_119 rfl) im_X10_isCell (ci := 10) rfl sl_X10__X10_isCell rfl (Nat.le_of_ble_eq_true rfl) (fun _ _ => Nat.le_of_ble_eq_true rfl) rfl rfl (Nat.le_of_ble_eq_true rfl) (Nat.le_of_ble_eq_true rfl) ?_
  refine c10_isCell_t hc hfd hf1 hf3 (k_i ?_)
  refine r_if_ne 48 51 rfl dX10_source_45 rfl (fun _ => ?_) (fun q__ => absurd q__ (by decide))
  refine r_aload_n 52 rfl 0 dX10_source_51 rfl rfl ?_
  refine r_getf (v := .ref 39) (k := 7) 55 rfl dX10_source_52 (gf_X10_13_10 rfl) rfl rfl ?_
  refine r_iload_n 56 rfl 3 dX10_source_55 rfl rfl ?_
  refine r_iald (f := m 39) 57 rfl c dX10_source_56 rfl rfl (by omega) (by decide) ?_
  rw [show (m 39) c = nI (D 0 c) from (hg c hc).1]
  refine r_if_eq 60 63 rfl dX10_source_57 rfl (fun _ => ?_) (fun q__ => absurd ((nI_eq (a := (D 0 c)) (b := 0) (by omega) (by omega)).mpr (by omega)) q__)
  refine r_aload_n 64 rfl 0 dX10_source_63 rfl rfl ?_
  refine r_getf (v := .int ((m 37) 10)) (k := 10) 67 rfl dX10_source_64 (gf_X10_95_10 rfl) rfl rfl ?_
  rw [show (m 37) 10 = nI (D 7 1) from hns]
  refine r_bipush 69 rfl 6 dX10_source_67 (by decide) ?_
  refine r_icmp_ne 72 75 rfl dX10_source_69 rfl (fun _ => ?_) (fun q__ => absurd q__ (fun q__ => absurd ((nI_eq (a := (D 7 1)) (b := 6) (by omega) (by omega)).mp q__) (by omega)))
  refine r_aload_n 76 rfl 0 dX10_source_75 rfl rfl ?_
  refine r_aload_n 77 rfl 0 dX10_source_76 rfl rfl ?_
  refine r_getf (v := .int ((m 37) 10)) (k := 10) 80 rfl dX10_source_77 (gf_X10_95_10 rfl) rfl rfl ?_
  rw [show (m 37) 10 = nI (D 7 1) from hns]
  refine r_iload_n 81 rfl 1 dX10_source_80 rfl rfl ?_
  refine r_iload_n 82 rfl 2 dX10_source_81 rfl rfl ?_
  refine r_iload_n 83 rfl 3 dX10_source_82 rfl rfl ?_
  refine r_iload 85 rfl dX10_source_83 rfl ?_
  refine q_V 88 0 0 rfl [.int (nI (D 7 1)), .int (nI kd), .int (nI p), .int (nI c), .int (nI sg)] rfl dX10_source_85 cl_X10_source__X10_lay (lk_X10_123 rfl) im_X10_lay (ci := 10) rfl sl_X10__X10_lay rfl (Nat.le_of_ble_eq_true rfl) (fun _ _ => Nat.le_of_ble_eq_true rfl) rfl rfl (Nat.le_of_ble_eq_true rfl) (Nat.le_of_ble_eq_true rfl) ?_
  refine c_lay (s := D 7 1) (by omega) (fun m1 g0 g1 g2 g3 g4 g5 gj hag => (k_v ?_))
  have e37 : m1 37 = m 37 := hag 37 (by decide)
  have f10 : m1 37 10 = nI (D 7 1) := by rw [e37]; exact hns
  refine r_aload_n 89 rfl 0 dX10_source_88 rfl rfl ?_
  refine r_dup 90 rfl dX10_source_89 rfl ?_
  refine r_getf (v := .int ((m1 37) 10)) (k := 10) 93 rfl dX10_source_90 (gf_X10_95_10 rfl) rfl rfl ?_
  rw [show (m1 37) 10 = nI (D 7 1) from f10]
  refine r_iconst 94 rfl 1 dX10_source_93 rfl ?_
  refine r_iadd 95 rfl dX10_source_94 ?_
  rw [show (nI (D 7 1)) + 1 = nI ((D 7 1) + 1) from nI_add (D 7 1) 1]
  refine w_putf 98 rfl (k := 10) (va_up m1 37 (upd (m1 37) 10 (nI ((D 7 1) + 1)))) dX10_source_95 (pf_X10_95_10 rfl) (by decide) (by decide) rfl (Nat.le_of_ble_eq_true rfl) rfl ⟨rfl, rfl⟩ rfl ?_
  refine r_aload_n 99 rfl 0 dX10_source_98 rfl rfl ?_
  refine r_getf (v := .int (nI ((D 7 1) + 1))) (k := 10) 102 rfl dX10_source_99 (gf_X10_95_10 rfl) rfl rfl ?_
  refine r_iconst 103 rfl 1 dX10_source_102 rfl ?_
  refine r_isub 104 rfl dX10_source_103 ?_
  rw [show (nI ((D 7 1) + 1)) - 1 = nI (D 7 1) from pk_sub (a := D 7 1 + 1) (b := 1) (by omega)]
  refine r_ireturn rfl dX10_source_104 (Nat.le_of_ble_eq_true rfl) (Nat.le_of_ble_eq_true rfl) ?_
  exact k _ g0 g1 g2 g3 g4 g5 (fun j hj => gj j (Or.inl hj)) (by rw [va_up_self, e37]) (ag_up (ag_w hag (by decide)) (by decide))

set_option maxHeartbeats 4000000 in
set_option maxRecDepth 20000 in
theorem P_source {i : Nat} {z : am_Z} {m : Nat → Nat → Int32} {n : Nat} {D K : Nat → Nat → Nat} (hI : IV i z m n D K) (hi : i + 5 ≤ 2560) (x : Int32) (y : Int32) (u : Int32) (v : Int32) : AW mX9_source (PR (i + 5) mX10_source [.ref 37, .int x, .int y, .int u, .int v]) 0 (am_ent (am_l mX9_source) [.ref 1, .int x, .int y, .int u, .int v]) [] (wd z m) n 0 0 := by
  obtain ⟨h9, h10, hnz, hpg, hop, hnw, hct, him⟩ := id hI
  obtain ⟨hg, hfd, hf3, hf0, hns, hn6, hsd, hsb, hwi, hw4, hfr, hr1, hhr, hh⟩ := id h9
  obtain ⟨gg, gfd, gf3, gf0, gns, gn7, gmr, gwi, gw4, gfr, gr1, ghr, gh⟩ := id h10
  obtain ⟨d1, d2, d3, d4, d5, d6⟩ := id hct
  rcases i_cases x 5 (by decide) with hx | ⟨kd, hk, rfl⟩
  · exact c9_source_o1 hx (PR_i (fun Q2 k => c10_source_o1 hx (k _ _ _ _ _ (IV_mono hI (by omega) hi))))
  · rcases i_cases y 3 (by decide) with hy | ⟨p, hp, rfl⟩
    · exact c9_source_o2 hk hy (PR_i (fun Q2 k => c10_source_o2 hk hy (k _ _ _ _ _ (IV_mono hI (by omega) hi))))
    · by_cases hv : v.toInt < 1 ∨ 9 < v.toInt
      · exact c9_source_o3 hk hp hv (PR_i (fun Q2 k => c10_source_o3 hk hp hv (k _ _ _ _ _ (IV_mono hI (by omega) hi))))
      · obtain ⟨sg, hsg, rfl⟩ := (i_cases v 10 (by decide)).resolve_left (by omega)
        rw [nI_toInt (by omega)] at hv
        by_cases hx : D 7 0 = 0 ∨ u.toInt < 0 ∨ 8 ≤ u.toInt
        · exact c9_source_n h9 hx hk hp (by omega) (by omega) (PR_i (fun Q2 k => c10_source_n h10 hx hk hp (by omega) (by omega) (k _ _ _ _ _ (IV_mono hI (by omega) hi))))
        · have hf1 : 1 ≤ D 7 0 := by omega
          obtain ⟨c, hc, rfl⟩ := (i_cases u 8 (by decide)).resolve_left (by omega)
          by_cases hop0 : D 0 c = 0
          · by_cases h6 : D 7 1 = 6
            · exact c9_source_f h9 hc hf1 hk hp (by omega) (by omega) hop0 h6 (PR_i (fun Q2 k => c10_source_f h10 hc hf1 hk hp (by omega) (by omega) hop0 h6 (k _ _ _ _ _ (IV_mono hI (by omega) hi))))
            · refine c9_source_t h9 hc hf1 hk hp (sg := sg) (by omega) (by omega) hop0 (by omega) hnz.1 (PR_i (fun Q2 k => ?_))
              refine c10_source_t (m := (va_up (va_up (va_up m 8 (upd (m 8) (D 7 1) 1)) 9 (upd (m 9) (D 7 1) 0)) 7 (upd (m 7) 0 (nI (D 7 1 + 1))))) (D := D) h10 hc hf1 hk hp (sg := sg) (by omega) (by omega) hop0 (by omega) (fun m2 g0 g1 g2 g3 g4 g5 gj g37 hag2 => ?_)
              have e (x : Nat) (hx : x ∉ [37, 42]) : m2 x = (va_up (va_up (va_up m 8 (upd (m 8) (D 7 1) 1)) 9 (upd (m 9) (D 7 1) 0)) 7 (upd (m 7) 0 (nI (D 7 1 + 1)))) x := hag2 x hx
              have ej : ∀ j, j ≠ 10 → m2 37 j = m 37 j := fun j hj => by rw [g37]; unfold upd; rw [if_neg hj]; rfl
              refine k (zr (zn z (n + 1) (.inr (.inr (kc kd, [.int (nI p), .int (nI c), .int (nI sg)])))) (D 7 1) (n + 1)) m2 (n + 1) (YT D kd p c sg) K ⟨⟨fun j hj => ?_, ?_, hf3, fun _ => hf1, ?_, (show D 7 1 + 1 ≤ 6 by omega), fun s hs => ?_, fun s hs => ?_, ?_, hw4, ?_, hr1, ?_, hh⟩, ⟨fun j hj => ?_, ?_, gf3, fun _ => hf1, ?_, (show D 7 1 + 1 ≤ 7 by omega), fun s hs => ?_, ?_, gw4, ?_, gr1, ?_, gh⟩, ⟨Nat.le_succ_of_le hnz.1, fun s q hq => ?_⟩, ?_, ?_, ⟨⟨fun j hj => ?_, fun j hj => ?_, hnw.1.2.2.1, fun j hj => ?_⟩, ?_, ?_, fun j hj => ?_⟩, ⟨?_, ?_, ?_, (show D 7 3 ≤ i + 5 by omega), fun s hs => ?_, hi⟩, ?_⟩
              · rw [e 5 (by decide)]; exact hg j hj
              · rw [e 4 (by decide)]; exact hfd
              · rw [e 7 (by decide)]; rfl
              · have hs : s < D 7 1 + 1 := hs
                by_cases hsn : s = D 7 1
                · subst hsn
                  refine ⟨n + 1, va_up_self _ _ _, by have := hnz.1; omega, ?_⟩
                  show va_up z.2.2.1 (n + 1) (.inr (.inr (kc kd, [.int (nI p), .int (nI c), .int (nI sg)]))) (n + 1) = .inr (.inr (kc (va_up (D 1) (D 7 1) kd (D 7 1)), [.int (nI (va_up (D 2) (D 7 1) p (D 7 1))), .int (nI (va_up (D 3) (D 7 1) c (D 7 1))), .int (nI (va_up (D 4) (D 7 1) sg (D 7 1)))])) ∧ va_up (D 1) (D 7 1) kd (D 7 1) ≤ 4 ∧ va_up (D 2) (D 7 1) p (D 7 1) < 3 ∧ va_up (D 3) (D 7 1) c (D 7 1) < 8 ∧ 1 ≤ va_up (D 4) (D 7 1) sg (D 7 1) ∧ va_up (D 4) (D 7 1) sg (D 7 1) ≤ 9
                  rw [va_up_self, va_up_self, va_up_self, va_up_self, va_up_self]
                  exact ⟨rfl, by omega, hp, hc, by omega, by omega⟩
                · obtain ⟨q, r1, r2, r3, r4⟩ := hsd s (by omega)
                  have hqn := hnz.2 s q r1
                  refine ⟨q, (va_up_ne _ _ hsn).trans r1, r2, ?_⟩
                  show va_up z.2.2.1 (n + 1) _ q = .inr (.inr (kc (va_up (D 1) (D 7 1) kd s), [.int (nI (va_up (D 2) (D 7 1) p s)), .int (nI (va_up (D 3) (D 7 1) c s)), .int (nI (va_up (D 4) (D 7 1) sg s))])) ∧ va_up (D 1) (D 7 1) kd s ≤ 4 ∧ va_up (D 2) (D 7 1) p s < 3 ∧ va_up (D 3) (D 7 1) c s < 8 ∧ 1 ≤ va_up (D 4) (D 7 1) sg s ∧ va_up (D 4) (D 7 1) sg s ≤ 9
                  rw [va_up_ne _ _ (by omega), va_up_ne _ _ hsn, va_up_ne _ _ hsn, va_up_ne _ _ hsn, va_up_ne _ _ hsn]
                  exact ⟨r3, r4⟩
              · have hs : s < D 7 1 + 1 := hs
                show m2 8 s = nI (va_up (D 5) (D 7 1) 1 s) ∧ va_up (D 5) (D 7 1) 1 s ≤ 1 ∧ m2 9 s = nI (va_up (D 6) (D 7 1) 0 s) ∧ va_up (D 6) (D 7 1) 0 s < 2 ^ 30
                rw [e 8 (by decide), e 9 (by decide)]
                show upd (m 8) (D 7 1) 1 s = _ ∧ _ ∧ upd (m 9) (D 7 1) 0 s = _ ∧ _
                unfold upd
                by_cases hsn : s = D 7 1
                · rw [if_pos hsn, if_pos hsn, hsn, va_up_self, va_up_self]; exact ⟨rfl, by decide, rfl, by decide⟩
                · rw [if_neg hsn, if_neg hsn, va_up_ne _ _ hsn, va_up_ne _ _ hsn]; exact hsb s (by omega)
              · rw [e 7 (by decide)]; exact hwi
              · rw [e 7 (by decide)]; exact hfr
              · rw [e 7 (by decide)]; exact hhr
              · rw [e 39 (by decide)]; exact gg j hj
              · rw [ej 2 (by decide)]; exact gfd
              · rw [g37]; rfl
              · have hs : s < D 7 1 + 1 := hs
                by_cases hsn : s = D 7 1
                · subst hsn
                  show (m2 42 (6 * D 7 1) = nI (va_up (D 1) (D 7 1) kd (D 7 1)) ∧ m2 42 (6 * D 7 1 + 1) = nI (va_up (D 2) (D 7 1) p (D 7 1)) ∧ m2 42 (6 * D 7 1 + 2) = nI (va_up (D 3) (D 7 1) c (D 7 1)) ∧ m2 42 (6 * D 7 1 + 3) = nI (va_up (D 4) (D 7 1) sg (D 7 1)) ∧ m2 42 (6 * D 7 1 + 4) = nI (va_up (D 5) (D 7 1) 1 (D 7 1)) ∧ m2 42 (6 * D 7 1 + 5) = nI (va_up (D 6) (D 7 1) 0 (D 7 1))) ∧ va_up (D 1) (D 7 1) kd (D 7 1) ≤ 4 ∧ va_up (D 2) (D 7 1) p (D 7 1) < 3 ∧ va_up (D 3) (D 7 1) c (D 7 1) < 8 ∧ va_up (D 4) (D 7 1) sg (D 7 1) ≤ 9 ∧ va_up (D 5) (D 7 1) 1 (D 7 1) ≤ 1 ∧ va_up (D 6) (D 7 1) 0 (D 7 1) < 2 ^ 30
                  rw [va_up_self, va_up_self, va_up_self, va_up_self, va_up_self, va_up_self]
                  exact ⟨⟨g0, g1, g2, g3, g4, g5⟩, by omega, hp, hc, by omega, by decide, by decide⟩
                · have hs2 : s < D 7 1 := by omega
                  show (m2 42 (6 * s) = nI (va_up (D 1) (D 7 1) kd s) ∧ m2 42 (6 * s + 1) = nI (va_up (D 2) (D 7 1) p s) ∧ m2 42 (6 * s + 2) = nI (va_up (D 3) (D 7 1) c s) ∧ m2 42 (6 * s + 3) = nI (va_up (D 4) (D 7 1) sg s) ∧ m2 42 (6 * s + 4) = nI (va_up (D 5) (D 7 1) 1 s) ∧ m2 42 (6 * s + 5) = nI (va_up (D 6) (D 7 1) 0 s)) ∧ va_up (D 1) (D 7 1) kd s ≤ 4 ∧ va_up (D 2) (D 7 1) p s < 3 ∧ va_up (D 3) (D 7 1) c s < 8 ∧ va_up (D 4) (D 7 1) sg s ≤ 9 ∧ va_up (D 5) (D 7 1) 1 s ≤ 1 ∧ va_up (D 6) (D 7 1) 0 s < 2 ^ 30
                  rw [va_up_ne _ _ hsn, va_up_ne _ _ hsn, va_up_ne _ _ hsn, va_up_ne _ _ hsn, va_up_ne _ _ hsn, va_up_ne _ _ hsn, gj (6 * s) (by omega), gj (6 * s + 1) (by omega), gj (6 * s + 2) (by omega), gj (6 * s + 3) (by omega), gj (6 * s + 4) (by omega), gj (6 * s + 5) (by omega)]
                  exact gmr s hs2
              · rw [ej 3 (by decide)]; exact gwi
              · rw [ej 4 (by decide)]; exact gfr
              · rw [ej 5 (by decide)]; exact ghr
              · have hq : va_up z.2.1 (D 7 1) (some (n + 1)) s = some q := hq
                by_cases hsn : s = D 7 1
                · rw [hsn, va_up_self] at hq; have := Option.some.inj hq; omega
                · rw [va_up_ne _ _ hsn] at hq; have := hnz.2 s q hq; omega
              · unfold PG at *; rw [e 2 (by decide), e 3 (by decide), e 38 (by decide), ej 1 (by decide)]; exact hpg
              · show m2 4 1 = nI (opn D); rw [e 4 (by decide)]; exact hop
              · show m2 10 j = m2 40 j; rw [e 10 (by decide), e 40 (by decide)]; exact hnw.1.1 j hj
              · show m2 11 j = m2 41 j; rw [e 11 (by decide), e 41 (by decide)]; exact hnw.1.2.1 j hj
              · show m2 12 j = m2 48 (2 * j) ∧ m2 13 j = m2 48 (2 * j + 1) ∧ ∃ q, q < 8 ∧ m2 12 j = nI q; rw [e 12 (by decide), e 13 (by decide), e 48 (by decide)]; exact hnw.1.2.2.2 j hj
              · rw [e 7 (by decide)]; exact hnw.2.1
              · rw [ej 18 (by decide)]; exact hnw.2.2.1
              · show m2 8 j = 0 ∨ m2 8 j = 1; rw [e 8 (by decide)]; show upd (m 8) (D 7 1) 1 j = 0 ∨ upd (m 8) (D 7 1) 1 j = 1; unfold upd
                by_cases hjn : j = D 7 1
                · rw [if_pos hjn]; exact Or.inr rfl
                · rw [if_neg hjn]; exact hnw.2.2.2 j hj
              · rw [e 1 (by decide), ej 6 (by decide)]; exact ⟨d1.1, d1.2.1, (show D 8 2 ≤ i + 5 by have := d1.2.2; omega)⟩
              · rw [e 1 (by decide), ej 15 (by decide)]; exact d2
              · rw [e 1 (by decide), ej 19 (by decide)]; exact d3
              · have hs : s < D 7 1 + 1 := hs
                show va_up (D 6) (D 7 1) 0 s ≤ i + 5
                by_cases hsn : s = D 7 1
                · rw [hsn, va_up_self]; omega
                · rw [va_up_ne _ _ hsn]; have := d5 s (by omega); omega
              · have him := IM_mono him (show i ≤ i + 5 by omega)
                rcases him with ⟨i1, i2⟩ | ⟨i1, i2, ⟨k1, k2⟩, k3⟩
                · exact Or.inl ⟨by rw [e 1 (by decide)]; exact i1, by rw [ej 23 (by decide)]; exact i2⟩
                · refine Or.inr ⟨by rw [e 1 (by decide)]; exact i1, by rw [ej 23 (by decide)]; exact i2, ⟨Nat.le_succ_of_le k1, fun s hs => ?_⟩, ?_⟩
                  · obtain ⟨v1, v2, v3, v4⟩ := k2 s hs
                    have hsn : s ≠ D 7 1 := by omega
                    show K 1 s = va_up (D 1) (D 7 1) kd s ∧ K 2 s = va_up (D 2) (D 7 1) p s ∧ K 3 s = va_up (D 3) (D 7 1) c s ∧ K 4 s = va_up (D 4) (D 7 1) sg s
                    rw [va_up_ne _ _ hsn, va_up_ne _ _ hsn, va_up_ne _ _ hsn, va_up_ne _ _ hsn]; exact ⟨v1, v2, v3, v4⟩
                  · unfold PT BL SB at *; simp only [Nat.reduceAdd] at *
                    rw [e 14 (by decide), e 15 (by decide), e 16 (by decide), e 17 (by decide), e 18 (by decide), e 19 (by decide), e 20 (by decide), e 50 (by decide), e 51 (by decide), e 52 (by decide), e 53 (by decide), ej 24 (by decide), ej 25 (by decide), ej 26 (by decide), ej 27 (by decide), ej 28 (by decide)]; exact k3
          · exact c9_source_s h9 hc hf1 hk hp (by omega) (by omega) hop0 (PR_i (fun Q2 k => c10_source_s h10 hc hf1 hk hp (by omega) (by omega) hop0 (k _ _ _ _ _ (IV_mono hI (by omega) hi))))
