theorem v_gf_X9_140 {M : am_M} (hM : (am_y M).cls = RX9) {Q : am_P} {z : am_Z} {m : Nat → Nat → Int32} {n : Nat} {lv : List (Option Value)} {st : List Value} {pc : Nat} (pc' : Nat) (hp : pc + 3 = pc') (hd : decode (am_c M) pc = .ok (.getfield 140, 3)) {q kd pa ce sg : Nat} (hq : 53 < q) (hz : z.2.2.1 q = .inr (.inr (kc kd, [.int (nI pa), .int (nI ce), .int (nI sg)]))) (hkd : kd ≤ 4) (k : AW M Q pc' lv (.int (nI ce) :: st) (wd z m) n 0 0) : AW M Q pc lv (.ref q :: st) (wd z m) n 0 0 := by
  rcases (show kd = 0 ∨ kd = 1 ∨ kd = 2 ∨ kd = 3 ∨ kd = 4 by omega) with rfl | rfl | rfl | rfl | rfl
  · exact r_getf (k := 1) pc' hp hd (gf_X9_140_4 hM) (wd_dy hq hz) rfl k
  · exact r_getf (k := 1) pc' hp hd (gf_X9_140_1 hM) (wd_dy hq hz) rfl k
  · exact r_getf (k := 1) pc' hp hd (gf_X9_140_2 hM) (wd_dy hq hz) rfl k
  · exact r_getf (k := 1) pc' hp hd (gf_X9_140_6 hM) (wd_dy hq hz) rfl k
  · exact r_getf (k := 1) pc' hp hd (gf_X9_140_8 hM) (wd_dy hq hz) rfl k

theorem v_gf_X9_307 {M : am_M} (hM : (am_y M).cls = RX9) {Q : am_P} {z : am_Z} {m : Nat → Nat → Int32} {n : Nat} {lv : List (Option Value)} {st : List Value} {pc : Nat} (pc' : Nat) (hp : pc + 3 = pc') (hd : decode (am_c M) pc = .ok (.getfield 307, 3)) {q kd pa ce sg : Nat} (hq : 53 < q) (hz : z.2.2.1 q = .inr (.inr (kc kd, [.int (nI pa), .int (nI ce), .int (nI sg)]))) (hkd : kd ≤ 4) (k : AW M Q pc' lv (.int (nI pa) :: st) (wd z m) n 0 0) : AW M Q pc lv (.ref q :: st) (wd z m) n 0 0 := by
  rcases (show kd = 0 ∨ kd = 1 ∨ kd = 2 ∨ kd = 3 ∨ kd = 4 by omega) with rfl | rfl | rfl | rfl | rfl
  · exact r_getf (k := 0) pc' hp hd (gf_X9_307_4 hM) (wd_dy hq hz) rfl k
  · exact r_getf (k := 0) pc' hp hd (gf_X9_307_1 hM) (wd_dy hq hz) rfl k
  · exact r_getf (k := 0) pc' hp hd (gf_X9_307_2 hM) (wd_dy hq hz) rfl k
  · exact r_getf (k := 0) pc' hp hd (gf_X9_307_6 hM) (wd_dy hq hz) rfl k
  · exact r_getf (k := 0) pc' hp hd (gf_X9_307_8 hM) (wd_dy hq hz) rfl k

theorem v_gf_X9_310 {M : am_M} (hM : (am_y M).cls = RX9) {Q : am_P} {z : am_Z} {m : Nat → Nat → Int32} {n : Nat} {lv : List (Option Value)} {st : List Value} {pc : Nat} (pc' : Nat) (hp : pc + 3 = pc') (hd : decode (am_c M) pc = .ok (.getfield 310, 3)) {q kd pa ce sg : Nat} (hq : 53 < q) (hz : z.2.2.1 q = .inr (.inr (kc kd, [.int (nI pa), .int (nI ce), .int (nI sg)]))) (hkd : kd ≤ 4) (k : AW M Q pc' lv (.int (nI sg) :: st) (wd z m) n 0 0) : AW M Q pc lv (.ref q :: st) (wd z m) n 0 0 := by
  rcases (show kd = 0 ∨ kd = 1 ∨ kd = 2 ∨ kd = 3 ∨ kd = 4 by omega) with rfl | rfl | rfl | rfl | rfl
  · exact r_getf (k := 2) pc' hp hd (gf_X9_310_4 hM) (wd_dy hq hz) rfl k
  · exact r_getf (k := 2) pc' hp hd (gf_X9_310_1 hM) (wd_dy hq hz) rfl k
  · exact r_getf (k := 2) pc' hp hd (gf_X9_310_2 hM) (wd_dy hq hz) rfl k
  · exact r_getf (k := 2) pc' hp hd (gf_X9_310_6 hM) (wd_dy hq hz) rfl k
  · exact r_getf (k := 2) pc' hp hd (gf_X9_310_8 hM) (wd_dy hq hz) rfl k

set_option maxHeartbeats 4000000 in
set_option maxRecDepth 20000 in
theorem v_X9_about_78 {Q : am_P} {z : am_Z} {m : Nat → Nat → Int32} {n : Nat} {lv : List (Option Value)} {st : List Value} {q kd pa ce sg : Nat} (hq : 53 < q) (hz : z.2.2.1 q = .inr (.inr (kc kd, [.int (nI pa), .int (nI ce), .int (nI sg)]))) (hkd : kd ≤ 4) (hsg : sg ≤ 9) {bt : Nat} (hbt : bt < 2 ^ 30) (h8 : (st.map fun v => v.category).sum ≤ 8) (k : AW mX9_about Q 81 lv (.int (nI (so_fo kd sg bt)) :: st) (wd z m) n 0 0) : AW mX9_about Q 78 lv (.int (nI bt) :: .ref q :: st) (wd z m) n 0 0 := by
  rcases (show kd = 0 ∨ kd = 1 ∨ kd = 2 ∨ kd = 3 ∨ kd = 4 by omega) with rfl | rfl | rfl | rfl | rfl
  · refine q_V 81 0 0 rfl [.int (nI bt)] rfl dX9_about_78 cl_X9_about__X4_force (lk_X9_146 rfl) im_X4_force (ci := 4) rfl sl_X4__X4_force (wd_dy hq hz) h8 (fun _ _ => Nat.le_of_ble_eq_true rfl) rfl rfl (Nat.le_of_ble_eq_true rfl) (Nat.le_of_ble_eq_true rfl) ?_
    exact c_force_4 hq hz (k_i k)
  · refine q_U 81 0 0 rfl [.int (nI bt)] rfl dX9_about_78 cl_X9_about__X1_force (lk_X9_146 rfl) sm_X4_force im_X4_force cd_X4_force dx_X4_force im_X1_force (ci := 1) rfl sl_X1__X4_force (wd_dy hq hz) h8 (fun _ _ => Nat.le_of_ble_eq_true rfl) rfl rfl (Nat.le_of_ble_eq_true rfl) (Nat.le_of_ble_eq_true rfl) ?_
    exact c_force_1 hq hz hsg hbt (k_i k)
  · refine q_U 81 0 0 rfl [.int (nI bt)] rfl dX9_about_78 cl_X9_about__X4_force (lk_X9_146 rfl) sm_X4_force im_X4_force cd_X4_force dx_X4_force im_X4_force (ci := 2) rfl sl_X2__X4_force (wd_dy hq hz) h8 (fun _ _ => Nat.le_of_ble_eq_true rfl) rfl rfl (Nat.le_of_ble_eq_true rfl) (Nat.le_of_ble_eq_true rfl) ?_
    exact c_force_2 hq hz (k_i k)
  · refine q_U 81 0 0 rfl [.int (nI bt)] rfl dX9_about_78 cl_X9_about__X4_force (lk_X9_146 rfl) sm_X4_force im_X4_force cd_X4_force dx_X4_force im_X4_force (ci := 6) rfl sl_X6__X4_force (wd_dy hq hz) h8 (fun _ _ => Nat.le_of_ble_eq_true rfl) rfl rfl (Nat.le_of_ble_eq_true rfl) (Nat.le_of_ble_eq_true rfl) ?_
    exact c_force_6 hq hz (k_i k)
  · refine q_U 81 0 0 rfl [.int (nI bt)] rfl dX9_about_78 cl_X9_about__X4_force (lk_X9_146 rfl) sm_X4_force im_X4_force cd_X4_force dx_X4_force im_X4_force (ci := 8) rfl sl_X8__X4_force (wd_dy hq hz) h8 (fun _ _ => Nat.le_of_ble_eq_true rfl) rfl rfl (Nat.le_of_ble_eq_true rfl) (Nat.le_of_ble_eq_true rfl) ?_
    exact c_force_8 hq hz (k_i k)

set_option maxHeartbeats 4000000 in
set_option maxRecDepth 20000 in
theorem v_X9_about_82 {Q : am_P} {z : am_Z} {m : Nat → Nat → Int32} {n : Nat} {lv : List (Option Value)} {st : List Value} {q kd pa ce sg : Nat} (hq : 53 < q) (hz : z.2.2.1 q = .inr (.inr (kc kd, [.int (nI pa), .int (nI ce), .int (nI sg)]))) (hkd : kd ≤ 4) (h8 : (st.map fun v => v.category).sum ≤ 8) (k : AW mX9_about Q 85 lv (.int (nI (so_ea kd)) :: st) (wd z m) n 0 0) : AW mX9_about Q 82 lv (.ref q :: st) (wd z m) n 0 0 := by
  rcases (show kd = 0 ∨ kd = 1 ∨ kd = 2 ∨ kd = 3 ∨ kd = 4 by omega) with rfl | rfl | rfl | rfl | rfl
  · refine q_V 85 0 0 rfl [] rfl dX9_about_82 cl_X9_about__X4_ease (lk_X9_150 rfl) im_X4_ease (ci := 4) rfl sl_X4__X4_ease (wd_dy hq hz) h8 (fun _ _ => Nat.le_of_ble_eq_true rfl) rfl rfl (Nat.le_of_ble_eq_true rfl) (Nat.le_of_ble_eq_true rfl) ?_
    exact c_X4_ease (k_i k)
  · refine q_U 85 0 0 rfl [] rfl dX9_about_82 cl_X9_about__X4_ease (lk_X9_150 rfl) sm_X4_ease im_X4_ease cd_X4_ease dx_X4_ease im_X4_ease (ci := 1) rfl sl_X1__X4_ease (wd_dy hq hz) h8 (fun _ _ => Nat.le_of_ble_eq_true rfl) rfl rfl (Nat.le_of_ble_eq_true rfl) (Nat.le_of_ble_eq_true rfl) ?_
    exact c_X4_ease (k_i k)
  · refine q_U 85 0 0 rfl [] rfl dX9_about_82 cl_X9_about__X4_ease (lk_X9_150 rfl) sm_X4_ease im_X4_ease cd_X4_ease dx_X4_ease im_X4_ease (ci := 2) rfl sl_X2__X4_ease (wd_dy hq hz) h8 (fun _ _ => Nat.le_of_ble_eq_true rfl) rfl rfl (Nat.le_of_ble_eq_true rfl) (Nat.le_of_ble_eq_true rfl) ?_
    exact c_X4_ease (k_i k)
  · refine q_U 85 0 0 rfl [] rfl dX9_about_82 cl_X9_about__X6_ease (lk_X9_150 rfl) sm_X4_ease im_X4_ease cd_X4_ease dx_X4_ease im_X6_ease (ci := 6) rfl sl_X6__X4_ease (wd_dy hq hz) h8 (fun _ _ => Nat.le_of_ble_eq_true rfl) rfl rfl (Nat.le_of_ble_eq_true rfl) (Nat.le_of_ble_eq_true rfl) ?_
    exact c_X6_ease (k_i k)
  · refine q_U 85 0 0 rfl [] rfl dX9_about_82 cl_X9_about__X6_ease (lk_X9_150 rfl) sm_X4_ease im_X4_ease cd_X4_ease dx_X4_ease im_X6_ease (ci := 8) rfl sl_X8__X4_ease (wd_dy hq hz) h8 (fun _ _ => Nat.le_of_ble_eq_true rfl) rfl rfl (Nat.le_of_ble_eq_true rfl) (Nat.le_of_ble_eq_true rfl) ?_
    exact c_X6_ease (k_i k)

set_option maxHeartbeats 4000000 in
set_option maxRecDepth 20000 in
theorem v_X9_tellOfSource_97 {Q : am_P} {z : am_Z} {m : Nat → Nat → Int32} {n : Nat} {lv : List (Option Value)} {st : List Value} {q kd pa ce sg : Nat} (hq : 53 < q) (hz : z.2.2.1 q = .inr (.inr (kc kd, [.int (nI pa), .int (nI ce), .int (nI sg)]))) (hkd : kd ≤ 4) (hsg : sg ≤ 9) {bt : Nat} (hbt : bt < 2 ^ 30) (h8 : (st.map fun v => v.category).sum ≤ 8) (k : AW mX9_tellOfSource Q 100 lv (.int (nI (so_fo kd sg bt)) :: st) (wd z m) n 0 0) : AW mX9_tellOfSource Q 97 lv (.int (nI bt) :: .ref q :: st) (wd z m) n 0 0 := by
  rcases (show kd = 0 ∨ kd = 1 ∨ kd = 2 ∨ kd = 3 ∨ kd = 4 by omega) with rfl | rfl | rfl | rfl | rfl
  · refine q_V 100 0 0 rfl [.int (nI bt)] rfl dX9_tellOfSource_97 cl_X9_tellOfSource__X4_force (lk_X9_146 rfl) im_X4_force (ci := 4) rfl sl_X4__X4_force (wd_dy hq hz) h8 (fun _ _ => Nat.le_of_ble_eq_true rfl) rfl rfl (Nat.le_of_ble_eq_true rfl) (Nat.le_of_ble_eq_true rfl) ?_
    exact c_force_4 hq hz (k_i k)
  · refine q_U 100 0 0 rfl [.int (nI bt)] rfl dX9_tellOfSource_97 cl_X9_tellOfSource__X1_force (lk_X9_146 rfl) sm_X4_force im_X4_force cd_X4_force dx_X4_force im_X1_force (ci := 1) rfl sl_X1__X4_force (wd_dy hq hz) h8 (fun _ _ => Nat.le_of_ble_eq_true rfl) rfl rfl (Nat.le_of_ble_eq_true rfl) (Nat.le_of_ble_eq_true rfl) ?_
    exact c_force_1 hq hz hsg hbt (k_i k)
  · refine q_U 100 0 0 rfl [.int (nI bt)] rfl dX9_tellOfSource_97 cl_X9_tellOfSource__X4_force (lk_X9_146 rfl) sm_X4_force im_X4_force cd_X4_force dx_X4_force im_X4_force (ci := 2) rfl sl_X2__X4_force (wd_dy hq hz) h8 (fun _ _ => Nat.le_of_ble_eq_true rfl) rfl rfl (Nat.le_of_ble_eq_true rfl) (Nat.le_of_ble_eq_true rfl) ?_
    exact c_force_2 hq hz (k_i k)
  · refine q_U 100 0 0 rfl [.int (nI bt)] rfl dX9_tellOfSource_97 cl_X9_tellOfSource__X4_force (lk_X9_146 rfl) sm_X4_force im_X4_force cd_X4_force dx_X4_force im_X4_force (ci := 6) rfl sl_X6__X4_force (wd_dy hq hz) h8 (fun _ _ => Nat.le_of_ble_eq_true rfl) rfl rfl (Nat.le_of_ble_eq_true rfl) (Nat.le_of_ble_eq_true rfl) ?_
    exact c_force_6 hq hz (k_i k)
  · refine q_U 100 0 0 rfl [.int (nI bt)] rfl dX9_tellOfSource_97 cl_X9_tellOfSource__X4_force (lk_X9_146 rfl) sm_X4_force im_X4_force cd_X4_force dx_X4_force im_X4_force (ci := 8) rfl sl_X8__X4_force (wd_dy hq hz) h8 (fun _ _ => Nat.le_of_ble_eq_true rfl) rfl rfl (Nat.le_of_ble_eq_true rfl) (Nat.le_of_ble_eq_true rfl) ?_
    exact c_force_8 hq hz (k_i k)

set_option maxHeartbeats 4000000 in
set_option maxRecDepth 20000 in
theorem v_X9_tellOfSource_45 {Q : am_P} {z : am_Z} {m : Nat → Nat → Int32} {n : Nat} {lv : List (Option Value)} {st : List Value} {q kd pa ce sg : Nat} (hq : 53 < q) (hz : z.2.2.1 q = .inr (.inr (kc kd, [.int (nI pa), .int (nI ce), .int (nI sg)]))) (hkd : kd ≤ 4) (h8 : (st.map fun v => v.category).sum ≤ 8) (k : AW mX9_tellOfSource Q 48 lv (.int (nI kd) :: st) (wd z m) n 0 0) : AW mX9_tellOfSource Q 45 lv (.ref q :: st) (wd z m) n 0 0 := by
  rcases (show kd = 0 ∨ kd = 1 ∨ kd = 2 ∨ kd = 3 ∨ kd = 4 by omega) with rfl | rfl | rfl | rfl | rfl
  · refine q_V 48 0 0 rfl [] rfl dX9_tellOfSource_45 cl_X9_tellOfSource__X4_kindNumber (lk_X9_304 rfl) im_X4_kindNumber (ci := 4) rfl sl_X4__X4_kindNumber (wd_dy hq hz) h8 (fun _ _ => Nat.le_of_ble_eq_true rfl) rfl rfl (Nat.le_of_ble_eq_true rfl) (Nat.le_of_ble_eq_true rfl) ?_
    exact c_X4_kindNumber (k_i k)
  · refine q_U 48 0 0 rfl [] rfl dX9_tellOfSource_45 cl_X9_tellOfSource__X1_kindNumber (lk_X9_304 rfl) sm_X4_kindNumber im_X4_kindNumber cd_X4_kindNumber dx_X4_kindNumber im_X1_kindNumber (ci := 1) rfl sl_X1__X4_kindNumber (wd_dy hq hz) h8 (fun _ _ => Nat.le_of_ble_eq_true rfl) rfl rfl (Nat.le_of_ble_eq_true rfl) (Nat.le_of_ble_eq_true rfl) ?_
    exact c_X1_kindNumber (k_i k)
  · refine q_U 48 0 0 rfl [] rfl dX9_tellOfSource_45 cl_X9_tellOfSource__X2_kindNumber (lk_X9_304 rfl) sm_X4_kindNumber im_X4_kindNumber cd_X4_kindNumber dx_X4_kindNumber im_X2_kindNumber (ci := 2) rfl sl_X2__X4_kindNumber (wd_dy hq hz) h8 (fun _ _ => Nat.le_of_ble_eq_true rfl) rfl rfl (Nat.le_of_ble_eq_true rfl) (Nat.le_of_ble_eq_true rfl) ?_
    exact c_X2_kindNumber (k_i k)
  · refine q_U 48 0 0 rfl [] rfl dX9_tellOfSource_45 cl_X9_tellOfSource__X6_kindNumber (lk_X9_304 rfl) sm_X4_kindNumber im_X4_kindNumber cd_X4_kindNumber dx_X4_kindNumber im_X6_kindNumber (ci := 6) rfl sl_X6__X4_kindNumber (wd_dy hq hz) h8 (fun _ _ => Nat.le_of_ble_eq_true rfl) rfl rfl (Nat.le_of_ble_eq_true rfl) (Nat.le_of_ble_eq_true rfl) ?_
    exact c_X6_kindNumber (k_i k)
  · refine q_U 48 0 0 rfl [] rfl dX9_tellOfSource_45 cl_X9_tellOfSource__X8_kindNumber (lk_X9_304 rfl) sm_X4_kindNumber im_X4_kindNumber cd_X4_kindNumber dx_X4_kindNumber im_X8_kindNumber (ci := 8) rfl sl_X8__X4_kindNumber (wd_dy hq hz) h8 (fun _ _ => Nat.le_of_ble_eq_true rfl) rfl rfl (Nat.le_of_ble_eq_true rfl) (Nat.le_of_ble_eq_true rfl) ?_
    exact c_X8_kindNumber (k_i k)

set_option maxHeartbeats 4000000 in
set_option maxRecDepth 20000 in
theorem c9_burn_n {Q : am_P} {z : am_Z} {m : Nat → Nat → Int32} {n : Nat} {D : Nat → Nat → Nat} (hC : C9 z m D){x : Int32} (hx : x.toInt < 0 ∨ (D 7 1 : Int) ≤ x.toInt){b : Nat} (hb : b ≤ 1) (k : Q (some (.int (-101))) (wd z m) n) : AW mX9_burn Q 0 (am_ent (am_l mX9_burn) [.ref 1, .int x, .int (nI b)]) [] (wd z m) n 0 0 := by
  show AW _ _ 0 [some (.ref 1), some (.int x), some (.int (nI b)), none] [] _ _ 0 0
  obtain ⟨hg, hfd, hf3, hf0, hns, hn6, hsd, hsb, hwi, hw4, hfr, hr1, hhr, hh⟩ := id hC
  refine r_aload_n 1 rfl 0 dX9_burn_0 rfl rfl ?_
  refine r_iload_n 2 rfl 1 dX9_burn_1 rfl rfl ?_
  refine q_V 5 0 0 rfl [.int x] rfl dX9_burn_2 cl_X9_burn__X9_find (lk_X9_128 rfl) im_X9_find (ci := 9) rfl sl_X9__X9_find rfl (Nat.le_of_ble_eq_true rfl) (fun _ _ => Nat.le_of_ble_eq_true rfl) rfl rfl (Nat.le_of_ble_eq_true rfl) (Nat.le_of_ble_eq_true rfl) ?_
  refine c_find_f hns hn6 hx (k_n ?_)
  refine r_ifnonnullN 8 rfl dX9_burn_5 ?_
  refine r_bipush 10 rfl (-101) dX9_burn_8 (by decide) ?_
  refine r_ireturn rfl dX9_burn_10 (Nat.le_of_ble_eq_true rfl) (Nat.le_of_ble_eq_true rfl) ?_
  exact k

set_option maxHeartbeats 4000000 in
set_option maxRecDepth 20000 in
theorem c9_burn_t {Q : am_P} {z : am_Z} {m : Nat → Nat → Int32} {n : Nat} {D : Nat → Nat → Nat} (hC : C9 z m D){s : Nat} (hs : s < D 7 1){b : Nat} (hb : b ≤ 1) (k : Q (some (.int (nI (D 5 s)))) (wd z (va_up m 8 (upd (m 8) s (nI b)))) n) : AW mX9_burn Q 0 (am_ent (am_l mX9_burn) [.ref 1, .int (nI s), .int (nI b)]) [] (wd z m) n 0 0 := by
  show AW _ _ 0 [some (.ref 1), some (.int (nI s)), some (.int (nI b)), none] [] _ _ 0 0
  obtain ⟨hg, hfd, hf3, hf0, hns, hn6, hsd, hsb, hwi, hw4, hfr, hr1, hhr, hh⟩ := id hC
  obtain ⟨q, hzr, hq, hz, hkd, hpa, hce, hsg1, hsg⟩ := hsd s hs
  obtain ⟨b1, b2, b3, b4⟩ := hsb s hs
  refine r_aload_n 1 rfl 0 dX9_burn_0 rfl rfl ?_
  refine r_iload_n 2 rfl 1 dX9_burn_1 rfl rfl ?_
  refine q_V 5 0 0 rfl [.int (nI s)] rfl dX9_burn_2 cl_X9_burn__X9_find (lk_X9_128 rfl) im_X9_find (ci := 9) rfl sl_X9__X9_find rfl (Nat.le_of_ble_eq_true rfl) (fun _ _ => Nat.le_of_ble_eq_true rfl) rfl rfl (Nat.le_of_ble_eq_true rfl) (Nat.le_of_ble_eq_true rfl) ?_
  refine c_find_t hns hn6 hs hzr (k_r ?_)
  refine r_ifnonnull 11 dX9_burn_5 rfl ?_
  refine r_aload_n 12 rfl 0 dX9_burn_11 rfl rfl ?_
  refine r_getf (v := .ref 7) (k := 3) 15 rfl dX9_burn_12 (gf_X9_32_9 rfl) rfl rfl ?_
  refine r_getf (v := .ref 8) (k := 1) 18 rfl dX9_burn_15 (gf_X9_163_5 rfl) rfl rfl ?_
  refine r_iload_n 19 rfl 1 dX9_burn_18 rfl rfl ?_
  refine r_zald (f := m 8) 20 rfl s dX9_burn_19 (by decide) rfl rfl (by omega) (by decide) ?_
  rw [show (m 8) s = nI (D 5 s) from b1]
  refine r_istore_n 21 rfl 3 [some (.ref 1), some (.int (nI s)), some (.int (nI b)), some (.int (nI (D 5 s)))] dX9_burn_20 rfl (by decide) rfl ?_
  refine r_aload_n 22 rfl 0 dX9_burn_21 rfl rfl ?_
  refine r_getf (v := .ref 7) (k := 3) 25 rfl dX9_burn_22 (gf_X9_32_9 rfl) rfl rfl ?_
  refine r_getf (v := .ref 8) (k := 1) 28 rfl dX9_burn_25 (gf_X9_163_5 rfl) rfl rfl ?_
  refine r_iload_n 29 rfl 1 dX9_burn_28 rfl rfl ?_
  refine r_iload_n 30 rfl 2 dX9_burn_29 rfl rfl ?_
  refine w_zast 31 rfl s (va_up m 8 (upd (m 8) s (nI b))) dX9_burn_30 (by decide) (by decide) (fun _ => rfl) rfl (by omega) (by decide) (nz_b hb) rfl ?_
  refine r_iload_n 32 rfl 3 dX9_burn_31 rfl rfl ?_
  refine q_S 35 0 0 rfl [.int (nI (D 5 s))] rfl dX9_burn_32 cl_X9_burn__X9_bit (lk_X9_167 rfl) st_X9_bit (Nat.le_of_ble_eq_true rfl) (fun _ _ => Nat.le_of_ble_eq_true rfl) rfl rfl (Nat.le_of_ble_eq_true rfl) (Nat.le_of_ble_eq_true rfl) ?_
  refine c_bit b2 (k_i ?_)
  refine r_ireturn rfl dX9_burn_35 (Nat.le_of_ble_eq_true rfl) (Nat.le_of_ble_eq_true rfl) ?_
  exact k

set_option maxHeartbeats 4000000 in
set_option maxRecDepth 20000 in
theorem c10_burn_n {Q : am_P} {z : am_Z} {m : Nat → Nat → Int32} {n : Nat} {D : Nat → Nat → Nat} (hC : C10 m D){x : Int32} (hx : x.toInt < 0 ∨ (D 7 1 : Int) ≤ x.toInt){b : Nat} (hb : b ≤ 1) (k : Q (some (.int (-101))) (wd z m) n) : AW mX10_burn Q 0 (am_ent (am_l mX10_burn) [.ref 37, .int x, .int (nI b)]) [] (wd z m) n 0 0 := by
  show AW _ _ 0 [some (.ref 37), some (.int x), some (.int (nI b)), none] [] _ _ 0 0
  obtain ⟨hg, hfd, hf3, hf0, hns, hn7, hmr, hwi, hw4, hfr, hr1, hhr, hh⟩ := id hC
  refine r_aload_n 1 rfl 0 dX10_burn_0 rfl rfl ?_
  refine r_iload_n 2 rfl 1 dX10_burn_1 rfl rfl ?_
  refine q_V 5 0 0 rfl [.int x] rfl dX10_burn_2 cl_X10_burn__X10_isSource (lk_X10_167 rfl) im_X10_isSource (ci := 10) rfl sl_X10__X10_isSource rfl (Nat.le_of_ble_eq_true rfl) (fun _ _ => Nat.le_of_ble_eq_true rfl) rfl rfl (Nat.le_of_ble_eq_true rfl) (Nat.le_of_ble_eq_true rfl) ?_
  refine c_isSource_f hns hn7 hx (k_i ?_)
  refine r_if_ne 8 11 rfl dX10_burn_5 rfl (fun q__ => absurd (by decide) q__) (fun _ => ?_)
  refine r_bipush 10 rfl (-101) dX10_burn_8 (by decide) ?_
  refine r_ireturn rfl dX10_burn_10 (Nat.le_of_ble_eq_true rfl) (Nat.le_of_ble_eq_true rfl) ?_
  exact k

set_option maxHeartbeats 4000000 in
set_option maxRecDepth 20000 in
theorem c10_burn_t {Q : am_P} {z : am_Z} {m : Nat → Nat → Int32} {n : Nat} {D : Nat → Nat → Nat} (hC : C10 m D){s : Nat} (hs : s < D 7 1){b : Nat} (hb : b ≤ 1) (k : Q (some (.int (nI (D 5 s)))) (wd z (va_up m 42 (upd (m 42) (6 * s + 4) (nI b)))) n) : AW mX10_burn Q 0 (am_ent (am_l mX10_burn) [.ref 37, .int (nI s), .int (nI b)]) [] (wd z m) n 0 0 := by
  show AW _ _ 0 [some (.ref 37), some (.int (nI s)), some (.int (nI b)), none] [] _ _ 0 0
  obtain ⟨hg, hfd, hf3, hf0, hns, hn7, hmr, hwi, hw4, hfr, hr1, hhr, hh⟩ := id hC
  obtain ⟨⟨e0, e1, e2, e3, e4, e5⟩, q1, q2, q3, q4, q5, q6⟩ := hmr s hs
  refine r_aload_n 1 rfl 0 dX10_burn_0 rfl rfl ?_
  refine r_iload_n 2 rfl 1 dX10_burn_1 rfl rfl ?_
  refine q_V 5 0 0 rfl [.int (nI s)] rfl dX10_burn_2 cl_X10_burn__X10_isSource (lk_X10_167 rfl) im_X10_isSource (ci := 10) rfl sl_X10__X10_isSource rfl (Nat.le_of_ble_eq_true rfl) (fun _ _ => Nat.le_of_ble_eq_true rfl) rfl rfl (Nat.le_of_ble_eq_true rfl) (Nat.le_of_ble_eq_true rfl) ?_
  refine c_isSource_t hns (by omega) hs (k_i ?_)
  refine r_if_ne 8 11 rfl dX10_burn_5 rfl (fun _ => ?_) (fun q__ => absurd q__ (by decide))
  refine r_aload_n 12 rfl 0 dX10_burn_11 rfl rfl ?_
  refine r_getf (v := .ref 42) (k := 11) 15 rfl dX10_burn_12 (gf_X10_22_10 rfl) rfl rfl ?_
  refine r_bipush 17 rfl 6 dX10_burn_15 (by decide) ?_
  refine r_iload_n 18 rfl 1 dX10_burn_17 rfl rfl ?_
  refine r_imul 19 rfl dX10_burn_18 ?_
  rw [show 6 * (nI s) = nI (6 * s) from pk_mul 6 s]
  refine r_iconst 20 rfl 4 dX10_burn_19 rfl ?_
  refine r_iadd 21 rfl dX10_burn_20 ?_
  rw [show (nI (6 * s)) + 4 = nI ((6 * s) + 4) from nI_add (6 * s) 4]
  refine r_iald (f := m 42) 22 rfl ((6 * s) + 4) dX10_burn_21 rfl rfl (by omega) (by decide) ?_
  rw [show (m 42) ((6 * s) + 4) = nI (D 5 s) from e4]
  refine r_istore_n 23 rfl 3 [some (.ref 37), some (.int (nI s)), some (.int (nI b)), some (.int (nI (D 5 s)))] dX10_burn_22 rfl (by decide) rfl ?_
  refine r_aload_n 24 rfl 0 dX10_burn_23 rfl rfl ?_
  refine r_getf (v := .ref 42) (k := 11) 27 rfl dX10_burn_24 (gf_X10_22_10 rfl) rfl rfl ?_
  refine r_bipush 29 rfl 6 dX10_burn_27 (by decide) ?_
  refine r_iload_n 30 rfl 1 dX10_burn_29 rfl rfl ?_
  refine r_imul 31 rfl dX10_burn_30 ?_
  rw [show 6 * (nI s) = nI (6 * s) from pk_mul 6 s]
  refine r_iconst 32 rfl 4 dX10_burn_31 rfl ?_
  refine r_iadd 33 rfl dX10_burn_32 ?_
  rw [show (nI (6 * s)) + 4 = nI ((6 * s) + 4) from nI_add (6 * s) 4]
  refine r_iload_n 34 rfl 2 dX10_burn_33 rfl rfl ?_
  refine r_if_eq 37 41 rfl dX10_burn_34 rfl (fun c34 => ?_) (fun c34 => ?_)
  · replace c34 : b = 0 := (nI_eq (a := b) (b := 0) (by omega) (by omega)).mp c34
    obtain rfl : b = 0 := by omega
    refine r_iconst 42 rfl 0 dX10_burn_41 rfl ?_
    refine w_iast 43 rfl ((6 * s) + 4) (va_up m 42 (upd (m 42) ((6 * s) + 4) 0)) dX10_burn_42 (by decide) (by decide) (fun _ => rfl) rfl (by omega) (by decide) rfl ?_
    refine r_iload_n 44 rfl 3 dX10_burn_43 rfl rfl ?_
    refine r_ireturn rfl dX10_burn_44 (Nat.le_of_ble_eq_true rfl) (Nat.le_of_ble_eq_true rfl) ?_
    exact k
  · replace c34 : ¬ b = 0 := fun q__ => c34 ((nI_eq (a := b) (b := 0) (by omega) (by omega)).mpr q__)
    obtain rfl : b = 1 := by omega
    refine r_iconst 38 rfl 1 dX10_burn_37 rfl ?_
    refine r_goto 42 dX10_burn_38 rfl ?_
    refine w_iast 43 rfl ((6 * s) + 4) (va_up m 42 (upd (m 42) ((6 * s) + 4) 1)) dX10_burn_42 (by decide) (by decide) (fun _ => rfl) rfl (by omega) (by decide) rfl ?_
    refine r_iload_n 44 rfl 3 dX10_burn_43 rfl rfl ?_
    refine r_ireturn rfl dX10_burn_44 (Nat.le_of_ble_eq_true rfl) (Nat.le_of_ble_eq_true rfl) ?_
    exact k

set_option maxHeartbeats 4000000 in
set_option maxRecDepth 20000 in
theorem P_burn {i : Nat} {z : am_Z} {m : Nat → Nat → Int32} {n : Nat} {D K : Nat → Nat → Nat} (hI : IV i z m n D K) (hi : i + 5 ≤ 2560) (x : Int32) {b : Nat} (hb : b ≤ 1) : AW mX9_burn (PR (i + 5) mX10_burn [.ref 37, .int x, .int (nI b)]) 0 (am_ent (am_l mX9_burn) [.ref 1, .int x, .int (nI b)]) [] (wd z m) n 0 0 := by
  obtain ⟨h9, h10, hnz, hpg, hop, hnw, hct, him⟩ := id hI
  obtain ⟨hg, hfd, hf3, hf0, hns, hn6, hsd, hsb, hwi, hw4, hfr, hr1, hhr, hh⟩ := id h9
  obtain ⟨gg, gfd, gf3, gf0, gns, gn7, gmr, gwi, gw4, gfr, gr1, ghr, gh⟩ := id h10
  by_cases hx : x.toInt < 0 ∨ (D 7 1 : Int) ≤ x.toInt
  · exact c9_burn_n h9 hx hb (PR_i (fun Q2 k => c10_burn_n h10 hx hb (k _ _ _ _ _ (IV_mono hI (by omega) hi))))
  · obtain ⟨s, hs, rfl⟩ := (i_cases x (D 7 1) (by omega)).resolve_left hx
    refine c9_burn_t h9 hs hb (PR_i (fun Q2 k => ?_))
    refine c10_burn_t (m := va_up m 8 (upd (m 8) s (nI b))) (D := D) h10 hs hb ?_
    refine k _ _ _ (va_up D 5 (va_up (D 5) s b)) K ⟨⟨hg, hfd, hf3, hf0, hns, hn6, hsd, fun j hj => ?_, hwi, hw4, hfr, hr1, hhr, hh⟩, ⟨gg, gfd, gf3, gf0, gns, gn7, fun j hj => ?_, gwi, gw4, gfr, gr1, ghr, gh⟩, hnz, hpg, hop, ⟨hnw.1, hnw.2.1, hnw.2.2.1, fun j hj => ?_⟩, CT_mono hct (by omega) hi, IM_mono him (by omega)⟩
    · obtain ⟨b1, b2, b3, b4⟩ := hsb j hj
      refine ⟨?_, ?_, b3, b4⟩
      · show upd (m 8) s (nI b) j = nI (if j = s then b else D 5 j)
        unfold upd
        by_cases h : j = s
        · rw [if_pos h, if_pos h]
        · rw [if_neg h, if_neg h]; exact b1
      · show (if j = s then b else D 5 j) ≤ 1
        split <;> assumption
    · obtain ⟨⟨e0, e1, e2, e3, e4, e5⟩, q1, q2, q3, q4, q5, q6⟩ := gmr j hj
      refine ⟨⟨?_, ?_, ?_, ?_, ?_, ?_⟩, q1, q2, q3, q4, ?_, q6⟩
      · show upd (m 42) (6 * s + 4) (nI b) (6 * j) = _; unfold upd; rw [if_neg (by omega)]; exact e0
      · show upd (m 42) (6 * s + 4) (nI b) (6 * j + 1) = _; unfold upd; rw [if_neg (by omega)]; exact e1
      · show upd (m 42) (6 * s + 4) (nI b) (6 * j + 2) = _; unfold upd; rw [if_neg (by omega)]; exact e2
      · show upd (m 42) (6 * s + 4) (nI b) (6 * j + 3) = _; unfold upd; rw [if_neg (by omega)]; exact e3
      · show upd (m 42) (6 * s + 4) (nI b) (6 * j + 4) = nI (if j = s then b else D 5 j)
        unfold upd
        by_cases h : j = s
        · rw [if_pos (by omega), if_pos h]
        · rw [if_neg (by omega), if_neg h]; exact e4
      · show upd (m 42) (6 * s + 4) (nI b) (6 * j + 5) = _; unfold upd; rw [if_neg (by omega)]; exact e5
      · show (if j = s then b else D 5 j) ≤ 1
        split <;> assumption
    · show upd (m 8) s (nI b) j = 0 ∨ upd (m 8) s (nI b) j = 1
      unfold upd
      by_cases h : j = s
      · rw [if_pos h]; rcases (show b = 0 ∨ b = 1 by omega) with rfl | rfl
        · exact Or.inl rfl
        · exact Or.inr rfl
      · rw [if_neg h]; exact hnw.2.2.2 j hj

set_option maxHeartbeats 4000000 in
set_option maxRecDepth 20000 in
theorem c_iok_0_0 {Q : am_P} {h : Nat → am_E} {n : Nat} {q : Nat} {fs : List Value} (hq : h q = .inr (.inr (4, fs))) (k : Q (some (.int 1)) h n) : AW mX9_isOfKind Q 0 (am_ent (am_l mX9_isOfKind) [.ref q, .int 0]) [] (h) n 0 0 := by
  show AW _ _ 0 [some (.ref q), some (.int 0)] [] _ _ 0 0
  refine r_iload_n 1 rfl 1 dX9_isOfKind_0 rfl rfl ?_
  refine r_tabOut 52 dX9_isOfKind_1 (by decide) rfl ?_
  refine r_iconst 53 rfl 1 dX9_isOfKind_52 rfl ?_
  refine r_zreturn rfl rfl dX9_isOfKind_53 (Nat.le_of_ble_eq_true rfl) (Nat.le_of_ble_eq_true rfl) ?_
  exact k

set_option maxHeartbeats 4000000 in
set_option maxRecDepth 20000 in
theorem c_iok_0_1 {Q : am_P} {h : Nat → am_E} {n : Nat} {q : Nat} {fs : List Value} (hq : h q = .inr (.inr (4, fs))) (k : Q (some (.int 0)) h n) : AW mX9_isOfKind Q 0 (am_ent (am_l mX9_isOfKind) [.ref q, .int 1]) [] (h) n 0 0 := by
  show AW _ _ 0 [some (.ref q), some (.int 1)] [] _ _ 0 0
  refine r_iload_n 1 rfl 1 dX9_isOfKind_0 rfl rfl ?_
  refine r_tabIn 32 dX9_isOfKind_1 (by decide) (by decide) rfl rfl ?_
  refine r_aload_n 33 rfl 0 dX9_isOfKind_32 rfl rfl ?_
  refine r_instN 36 rfl dX9_isOfKind_33 (ck_X9_280 rfl) hq (ci := 4) rfl (by decide +kernel) ?_
  refine r_zreturn rfl rfl dX9_isOfKind_36 (Nat.le_of_ble_eq_true rfl) (Nat.le_of_ble_eq_true rfl) ?_
  exact k

set_option maxHeartbeats 4000000 in
set_option maxRecDepth 20000 in
theorem c_iok_0_2 {Q : am_P} {h : Nat → am_E} {n : Nat} {q : Nat} {fs : List Value} (hq : h q = .inr (.inr (4, fs))) (k : Q (some (.int 0)) h n) : AW mX9_isOfKind Q 0 (am_ent (am_l mX9_isOfKind) [.ref q, .int 2]) [] (h) n 0 0 := by
  show AW _ _ 0 [some (.ref q), some (.int 2)] [] _ _ 0 0
  refine r_iload_n 1 rfl 1 dX9_isOfKind_0 rfl rfl ?_
  refine r_tabIn 37 dX9_isOfKind_1 (by decide) (by decide) rfl rfl ?_
  refine r_aload_n 38 rfl 0 dX9_isOfKind_37 rfl rfl ?_
  refine r_instN 41 rfl dX9_isOfKind_38 (ck_X9_285 rfl) hq (ci := 4) rfl (by decide +kernel) ?_
  refine r_zreturn rfl rfl dX9_isOfKind_41 (Nat.le_of_ble_eq_true rfl) (Nat.le_of_ble_eq_true rfl) ?_
  exact k

set_option maxHeartbeats 4000000 in
set_option maxRecDepth 20000 in
theorem c_iok_0_3 {Q : am_P} {h : Nat → am_E} {n : Nat} {q : Nat} {fs : List Value} (hq : h q = .inr (.inr (4, fs))) (k : Q (some (.int 0)) h n) : AW mX9_isOfKind Q 0 (am_ent (am_l mX9_isOfKind) [.ref q, .int 3]) [] (h) n 0 0 := by
  show AW _ _ 0 [some (.ref q), some (.int 3)] [] _ _ 0 0
  refine r_iload_n 1 rfl 1 dX9_isOfKind_0 rfl rfl ?_
  refine r_tabIn 42 dX9_isOfKind_1 (by decide) (by decide) rfl rfl ?_
  refine r_aload_n 43 rfl 0 dX9_isOfKind_42 rfl rfl ?_
  refine r_instN 46 rfl dX9_isOfKind_43 (ck_X9_288 rfl) hq (ci := 4) rfl (by decide +kernel) ?_
  refine r_zreturn rfl rfl dX9_isOfKind_46 (Nat.le_of_ble_eq_true rfl) (Nat.le_of_ble_eq_true rfl) ?_
  exact k

set_option maxHeartbeats 4000000 in
set_option maxRecDepth 20000 in
theorem c_iok_0_4 {Q : am_P} {h : Nat → am_E} {n : Nat} {q : Nat} {fs : List Value} (hq : h q = .inr (.inr (4, fs))) (k : Q (some (.int 0)) h n) : AW mX9_isOfKind Q 0 (am_ent (am_l mX9_isOfKind) [.ref q, .int 4]) [] (h) n 0 0 := by
  show AW _ _ 0 [some (.ref q), some (.int 4)] [] _ _ 0 0
  refine r_iload_n 1 rfl 1 dX9_isOfKind_0 rfl rfl ?_
  refine r_tabIn 47 dX9_isOfKind_1 (by decide) (by decide) rfl rfl ?_
  refine r_aload_n 48 rfl 0 dX9_isOfKind_47 rfl rfl ?_
  refine r_instN 51 rfl dX9_isOfKind_48 (ck_X9_291 rfl) hq (ci := 4) rfl (by decide +kernel) ?_
  refine r_zreturn rfl rfl dX9_isOfKind_51 (Nat.le_of_ble_eq_true rfl) (Nat.le_of_ble_eq_true rfl) ?_
  exact k

set_option maxHeartbeats 4000000 in
set_option maxRecDepth 20000 in
theorem c_iok_1_0 {Q : am_P} {h : Nat → am_E} {n : Nat} {q : Nat} {fs : List Value} (hq : h q = .inr (.inr (1, fs))) (k : Q (some (.int 1)) h n) : AW mX9_isOfKind Q 0 (am_ent (am_l mX9_isOfKind) [.ref q, .int 0]) [] (h) n 0 0 := by
  show AW _ _ 0 [some (.ref q), some (.int 0)] [] _ _ 0 0
  refine r_iload_n 1 rfl 1 dX9_isOfKind_0 rfl rfl ?_
  refine r_tabOut 52 dX9_isOfKind_1 (by decide) rfl ?_
  refine r_iconst 53 rfl 1 dX9_isOfKind_52 rfl ?_
  refine r_zreturn rfl rfl dX9_isOfKind_53 (Nat.le_of_ble_eq_true rfl) (Nat.le_of_ble_eq_true rfl) ?_
  exact k

set_option maxHeartbeats 4000000 in
set_option maxRecDepth 20000 in
theorem c_iok_1_1 {Q : am_P} {h : Nat → am_E} {n : Nat} {q : Nat} {fs : List Value} (hq : h q = .inr (.inr (1, fs))) (k : Q (some (.int 1)) h n) : AW mX9_isOfKind Q 0 (am_ent (am_l mX9_isOfKind) [.ref q, .int 1]) [] (h) n 0 0 := by
  show AW _ _ 0 [some (.ref q), some (.int 1)] [] _ _ 0 0
  refine r_iload_n 1 rfl 1 dX9_isOfKind_0 rfl rfl ?_
  refine r_tabIn 32 dX9_isOfKind_1 (by decide) (by decide) rfl rfl ?_
  refine r_aload_n 33 rfl 0 dX9_isOfKind_32 rfl rfl ?_
  refine r_instY 36 rfl dX9_isOfKind_33 (ck_X9_280 rfl) hq (ci := 1) rfl (Or.inl rfl) ?_
  refine r_zreturn rfl rfl dX9_isOfKind_36 (Nat.le_of_ble_eq_true rfl) (Nat.le_of_ble_eq_true rfl) ?_
  exact k

set_option maxHeartbeats 4000000 in
set_option maxRecDepth 20000 in
theorem c_iok_1_2 {Q : am_P} {h : Nat → am_E} {n : Nat} {q : Nat} {fs : List Value} (hq : h q = .inr (.inr (1, fs))) (k : Q (some (.int 0)) h n) : AW mX9_isOfKind Q 0 (am_ent (am_l mX9_isOfKind) [.ref q, .int 2]) [] (h) n 0 0 := by
  show AW _ _ 0 [some (.ref q), some (.int 2)] [] _ _ 0 0
  refine r_iload_n 1 rfl 1 dX9_isOfKind_0 rfl rfl ?_
  refine r_tabIn 37 dX9_isOfKind_1 (by decide) (by decide) rfl rfl ?_
  refine r_aload_n 38 rfl 0 dX9_isOfKind_37 rfl rfl ?_
  refine r_instN 41 rfl dX9_isOfKind_38 (ck_X9_285 rfl) hq (ci := 1) rfl (by decide +kernel) ?_
  refine r_zreturn rfl rfl dX9_isOfKind_41 (Nat.le_of_ble_eq_true rfl) (Nat.le_of_ble_eq_true rfl) ?_
  exact k

set_option maxHeartbeats 4000000 in
set_option maxRecDepth 20000 in
theorem c_iok_1_3 {Q : am_P} {h : Nat → am_E} {n : Nat} {q : Nat} {fs : List Value} (hq : h q = .inr (.inr (1, fs))) (k : Q (some (.int 0)) h n) : AW mX9_isOfKind Q 0 (am_ent (am_l mX9_isOfKind) [.ref q, .int 3]) [] (h) n 0 0 := by
  show AW _ _ 0 [some (.ref q), some (.int 3)] [] _ _ 0 0
  refine r_iload_n 1 rfl 1 dX9_isOfKind_0 rfl rfl ?_
  refine r_tabIn 42 dX9_isOfKind_1 (by decide) (by decide) rfl rfl ?_
  refine r_aload_n 43 rfl 0 dX9_isOfKind_42 rfl rfl ?_
  refine r_instN 46 rfl dX9_isOfKind_43 (ck_X9_288 rfl) hq (ci := 1) rfl (by decide +kernel) ?_
  refine r_zreturn rfl rfl dX9_isOfKind_46 (Nat.le_of_ble_eq_true rfl) (Nat.le_of_ble_eq_true rfl) ?_
  exact k

set_option maxHeartbeats 4000000 in
set_option maxRecDepth 20000 in
theorem c_iok_1_4 {Q : am_P} {h : Nat → am_E} {n : Nat} {q : Nat} {fs : List Value} (hq : h q = .inr (.inr (1, fs))) (k : Q (some (.int 0)) h n) : AW mX9_isOfKind Q 0 (am_ent (am_l mX9_isOfKind) [.ref q, .int 4]) [] (h) n 0 0 := by
  show AW _ _ 0 [some (.ref q), some (.int 4)] [] _ _ 0 0
  refine r_iload_n 1 rfl 1 dX9_isOfKind_0 rfl rfl ?_
  refine r_tabIn 47 dX9_isOfKind_1 (by decide) (by decide) rfl rfl ?_
  refine r_aload_n 48 rfl 0 dX9_isOfKind_47 rfl rfl ?_
  refine r_instN 51 rfl dX9_isOfKind_48 (ck_X9_291 rfl) hq (ci := 1) rfl (by decide +kernel) ?_
  refine r_zreturn rfl rfl dX9_isOfKind_51 (Nat.le_of_ble_eq_true rfl) (Nat.le_of_ble_eq_true rfl) ?_
  exact k

set_option maxHeartbeats 4000000 in
set_option maxRecDepth 20000 in
theorem c_iok_2_0 {Q : am_P} {h : Nat → am_E} {n : Nat} {q : Nat} {fs : List Value} (hq : h q = .inr (.inr (2, fs))) (k : Q (some (.int 1)) h n) : AW mX9_isOfKind Q 0 (am_ent (am_l mX9_isOfKind) [.ref q, .int 0]) [] (h) n 0 0 := by
  show AW _ _ 0 [some (.ref q), some (.int 0)] [] _ _ 0 0
  refine r_iload_n 1 rfl 1 dX9_isOfKind_0 rfl rfl ?_
  refine r_tabOut 52 dX9_isOfKind_1 (by decide) rfl ?_
  refine r_iconst 53 rfl 1 dX9_isOfKind_52 rfl ?_
  refine r_zreturn rfl rfl dX9_isOfKind_53 (Nat.le_of_ble_eq_true rfl) (Nat.le_of_ble_eq_true rfl) ?_
  exact k

set_option maxHeartbeats 4000000 in
set_option maxRecDepth 20000 in
theorem c_iok_2_1 {Q : am_P} {h : Nat → am_E} {n : Nat} {q : Nat} {fs : List Value} (hq : h q = .inr (.inr (2, fs))) (k : Q (some (.int 0)) h n) : AW mX9_isOfKind Q 0 (am_ent (am_l mX9_isOfKind) [.ref q, .int 1]) [] (h) n 0 0 := by
  show AW _ _ 0 [some (.ref q), some (.int 1)] [] _ _ 0 0
  refine r_iload_n 1 rfl 1 dX9_isOfKind_0 rfl rfl ?_
  refine r_tabIn 32 dX9_isOfKind_1 (by decide) (by decide) rfl rfl ?_
  refine r_aload_n 33 rfl 0 dX9_isOfKind_32 rfl rfl ?_
  refine r_instN 36 rfl dX9_isOfKind_33 (ck_X9_280 rfl) hq (ci := 2) rfl (by decide +kernel) ?_
  refine r_zreturn rfl rfl dX9_isOfKind_36 (Nat.le_of_ble_eq_true rfl) (Nat.le_of_ble_eq_true rfl) ?_
  exact k

set_option maxHeartbeats 4000000 in
set_option maxRecDepth 20000 in
theorem c_iok_2_2 {Q : am_P} {h : Nat → am_E} {n : Nat} {q : Nat} {fs : List Value} (hq : h q = .inr (.inr (2, fs))) (k : Q (some (.int 1)) h n) : AW mX9_isOfKind Q 0 (am_ent (am_l mX9_isOfKind) [.ref q, .int 2]) [] (h) n 0 0 := by
  show AW _ _ 0 [some (.ref q), some (.int 2)] [] _ _ 0 0
  refine r_iload_n 1 rfl 1 dX9_isOfKind_0 rfl rfl ?_
  refine r_tabIn 37 dX9_isOfKind_1 (by decide) (by decide) rfl rfl ?_
  refine r_aload_n 38 rfl 0 dX9_isOfKind_37 rfl rfl ?_
  refine r_instY 41 rfl dX9_isOfKind_38 (ck_X9_285 rfl) hq (ci := 2) rfl (Or.inl rfl) ?_
  refine r_zreturn rfl rfl dX9_isOfKind_41 (Nat.le_of_ble_eq_true rfl) (Nat.le_of_ble_eq_true rfl) ?_
  exact k

set_option maxHeartbeats 4000000 in
set_option maxRecDepth 20000 in
theorem c_iok_2_3 {Q : am_P} {h : Nat → am_E} {n : Nat} {q : Nat} {fs : List Value} (hq : h q = .inr (.inr (2, fs))) (k : Q (some (.int 0)) h n) : AW mX9_isOfKind Q 0 (am_ent (am_l mX9_isOfKind) [.ref q, .int 3]) [] (h) n 0 0 := by
  show AW _ _ 0 [some (.ref q), some (.int 3)] [] _ _ 0 0
  refine r_iload_n 1 rfl 1 dX9_isOfKind_0 rfl rfl ?_
  refine r_tabIn 42 dX9_isOfKind_1 (by decide) (by decide) rfl rfl ?_
  refine r_aload_n 43 rfl 0 dX9_isOfKind_42 rfl rfl ?_
  refine r_instN 46 rfl dX9_isOfKind_43 (ck_X9_288 rfl) hq (ci := 2) rfl (by decide +kernel) ?_
  refine r_zreturn rfl rfl dX9_isOfKind_46 (Nat.le_of_ble_eq_true rfl) (Nat.le_of_ble_eq_true rfl) ?_
  exact k

set_option maxHeartbeats 4000000 in
set_option maxRecDepth 20000 in
theorem c_iok_2_4 {Q : am_P} {h : Nat → am_E} {n : Nat} {q : Nat} {fs : List Value} (hq : h q = .inr (.inr (2, fs))) (k : Q (some (.int 0)) h n) : AW mX9_isOfKind Q 0 (am_ent (am_l mX9_isOfKind) [.ref q, .int 4]) [] (h) n 0 0 := by
  show AW _ _ 0 [some (.ref q), some (.int 4)] [] _ _ 0 0
  refine r_iload_n 1 rfl 1 dX9_isOfKind_0 rfl rfl ?_
  refine r_tabIn 47 dX9_isOfKind_1 (by decide) (by decide) rfl rfl ?_
  refine r_aload_n 48 rfl 0 dX9_isOfKind_47 rfl rfl ?_
  refine r_instN 51 rfl dX9_isOfKind_48 (ck_X9_291 rfl) hq (ci := 2) rfl (by decide +kernel) ?_
  refine r_zreturn rfl rfl dX9_isOfKind_51 (Nat.le_of_ble_eq_true rfl) (Nat.le_of_ble_eq_true rfl) ?_
  exact k

set_option maxHeartbeats 4000000 in
set_option maxRecDepth 20000 in
theorem c_iok_3_0 {Q : am_P} {h : Nat → am_E} {n : Nat} {q : Nat} {fs : List Value} (hq : h q = .inr (.inr (6, fs))) (k : Q (some (.int 1)) h n) : AW mX9_isOfKind Q 0 (am_ent (am_l mX9_isOfKind) [.ref q, .int 0]) [] (h) n 0 0 := by
  show AW _ _ 0 [some (.ref q), some (.int 0)] [] _ _ 0 0
  refine r_iload_n 1 rfl 1 dX9_isOfKind_0 rfl rfl ?_
  refine r_tabOut 52 dX9_isOfKind_1 (by decide) rfl ?_
  refine r_iconst 53 rfl 1 dX9_isOfKind_52 rfl ?_
  refine r_zreturn rfl rfl dX9_isOfKind_53 (Nat.le_of_ble_eq_true rfl) (Nat.le_of_ble_eq_true rfl) ?_
  exact k

set_option maxHeartbeats 4000000 in
set_option maxRecDepth 20000 in
theorem c_iok_3_1 {Q : am_P} {h : Nat → am_E} {n : Nat} {q : Nat} {fs : List Value} (hq : h q = .inr (.inr (6, fs))) (k : Q (some (.int 0)) h n) : AW mX9_isOfKind Q 0 (am_ent (am_l mX9_isOfKind) [.ref q, .int 1]) [] (h) n 0 0 := by
  show AW _ _ 0 [some (.ref q), some (.int 1)] [] _ _ 0 0
  refine r_iload_n 1 rfl 1 dX9_isOfKind_0 rfl rfl ?_
  refine r_tabIn 32 dX9_isOfKind_1 (by decide) (by decide) rfl rfl ?_
  refine r_aload_n 33 rfl 0 dX9_isOfKind_32 rfl rfl ?_
  refine r_instN 36 rfl dX9_isOfKind_33 (ck_X9_280 rfl) hq (ci := 6) rfl (by decide +kernel) ?_
  refine r_zreturn rfl rfl dX9_isOfKind_36 (Nat.le_of_ble_eq_true rfl) (Nat.le_of_ble_eq_true rfl) ?_
  exact k

set_option maxHeartbeats 4000000 in
set_option maxRecDepth 20000 in
theorem c_iok_3_2 {Q : am_P} {h : Nat → am_E} {n : Nat} {q : Nat} {fs : List Value} (hq : h q = .inr (.inr (6, fs))) (k : Q (some (.int 0)) h n) : AW mX9_isOfKind Q 0 (am_ent (am_l mX9_isOfKind) [.ref q, .int 2]) [] (h) n 0 0 := by
  show AW _ _ 0 [some (.ref q), some (.int 2)] [] _ _ 0 0
  refine r_iload_n 1 rfl 1 dX9_isOfKind_0 rfl rfl ?_
  refine r_tabIn 37 dX9_isOfKind_1 (by decide) (by decide) rfl rfl ?_
  refine r_aload_n 38 rfl 0 dX9_isOfKind_37 rfl rfl ?_
  refine r_instN 41 rfl dX9_isOfKind_38 (ck_X9_285 rfl) hq (ci := 6) rfl (by decide +kernel) ?_
  refine r_zreturn rfl rfl dX9_isOfKind_41 (Nat.le_of_ble_eq_true rfl) (Nat.le_of_ble_eq_true rfl) ?_
  exact k

set_option maxHeartbeats 4000000 in
set_option maxRecDepth 20000 in
theorem c_iok_3_3 {Q : am_P} {h : Nat → am_E} {n : Nat} {q : Nat} {fs : List Value} (hq : h q = .inr (.inr (6, fs))) (k : Q (some (.int 1)) h n) : AW mX9_isOfKind Q 0 (am_ent (am_l mX9_isOfKind) [.ref q, .int 3]) [] (h) n 0 0 := by
  show AW _ _ 0 [some (.ref q), some (.int 3)] [] _ _ 0 0
  refine r_iload_n 1 rfl 1 dX9_isOfKind_0 rfl rfl ?_
  refine r_tabIn 42 dX9_isOfKind_1 (by decide) (by decide) rfl rfl ?_
  refine r_aload_n 43 rfl 0 dX9_isOfKind_42 rfl rfl ?_
  refine r_instY 46 rfl dX9_isOfKind_43 (ck_X9_288 rfl) hq (ci := 6) rfl (Or.inl rfl) ?_
  refine r_zreturn rfl rfl dX9_isOfKind_46 (Nat.le_of_ble_eq_true rfl) (Nat.le_of_ble_eq_true rfl) ?_
  exact k

set_option maxHeartbeats 4000000 in
set_option maxRecDepth 20000 in
theorem c_iok_3_4 {Q : am_P} {h : Nat → am_E} {n : Nat} {q : Nat} {fs : List Value} (hq : h q = .inr (.inr (6, fs))) (k : Q (some (.int 0)) h n) : AW mX9_isOfKind Q 0 (am_ent (am_l mX9_isOfKind) [.ref q, .int 4]) [] (h) n 0 0 := by
  show AW _ _ 0 [some (.ref q), some (.int 4)] [] _ _ 0 0
  refine r_iload_n 1 rfl 1 dX9_isOfKind_0 rfl rfl ?_
  refine r_tabIn 47 dX9_isOfKind_1 (by decide) (by decide) rfl rfl ?_
  refine r_aload_n 48 rfl 0 dX9_isOfKind_47 rfl rfl ?_
  refine r_instN 51 rfl dX9_isOfKind_48 (ck_X9_291 rfl) hq (ci := 6) rfl (by decide +kernel) ?_
  refine r_zreturn rfl rfl dX9_isOfKind_51 (Nat.le_of_ble_eq_true rfl) (Nat.le_of_ble_eq_true rfl) ?_
  exact k

set_option maxHeartbeats 4000000 in
set_option maxRecDepth 20000 in
theorem c_iok_4_0 {Q : am_P} {h : Nat → am_E} {n : Nat} {q : Nat} {fs : List Value} (hq : h q = .inr (.inr (8, fs))) (k : Q (some (.int 1)) h n) : AW mX9_isOfKind Q 0 (am_ent (am_l mX9_isOfKind) [.ref q, .int 0]) [] (h) n 0 0 := by
  show AW _ _ 0 [some (.ref q), some (.int 0)] [] _ _ 0 0
  refine r_iload_n 1 rfl 1 dX9_isOfKind_0 rfl rfl ?_
  refine r_tabOut 52 dX9_isOfKind_1 (by decide) rfl ?_
  refine r_iconst 53 rfl 1 dX9_isOfKind_52 rfl ?_
  refine r_zreturn rfl rfl dX9_isOfKind_53 (Nat.le_of_ble_eq_true rfl) (Nat.le_of_ble_eq_true rfl) ?_
  exact k

set_option maxHeartbeats 4000000 in
set_option maxRecDepth 20000 in
theorem c_iok_4_1 {Q : am_P} {h : Nat → am_E} {n : Nat} {q : Nat} {fs : List Value} (hq : h q = .inr (.inr (8, fs))) (k : Q (some (.int 0)) h n) : AW mX9_isOfKind Q 0 (am_ent (am_l mX9_isOfKind) [.ref q, .int 1]) [] (h) n 0 0 := by
  show AW _ _ 0 [some (.ref q), some (.int 1)] [] _ _ 0 0
  refine r_iload_n 1 rfl 1 dX9_isOfKind_0 rfl rfl ?_
  refine r_tabIn 32 dX9_isOfKind_1 (by decide) (by decide) rfl rfl ?_
  refine r_aload_n 33 rfl 0 dX9_isOfKind_32 rfl rfl ?_
  refine r_instN 36 rfl dX9_isOfKind_33 (ck_X9_280 rfl) hq (ci := 8) rfl (by decide +kernel) ?_
  refine r_zreturn rfl rfl dX9_isOfKind_36 (Nat.le_of_ble_eq_true rfl) (Nat.le_of_ble_eq_true rfl) ?_
  exact k

set_option maxHeartbeats 4000000 in
set_option maxRecDepth 20000 in
theorem c_iok_4_2 {Q : am_P} {h : Nat → am_E} {n : Nat} {q : Nat} {fs : List Value} (hq : h q = .inr (.inr (8, fs))) (k : Q (some (.int 0)) h n) : AW mX9_isOfKind Q 0 (am_ent (am_l mX9_isOfKind) [.ref q, .int 2]) [] (h) n 0 0 := by
  show AW _ _ 0 [some (.ref q), some (.int 2)] [] _ _ 0 0
  refine r_iload_n 1 rfl 1 dX9_isOfKind_0 rfl rfl ?_
  refine r_tabIn 37 dX9_isOfKind_1 (by decide) (by decide) rfl rfl ?_
  refine r_aload_n 38 rfl 0 dX9_isOfKind_37 rfl rfl ?_
  refine r_instN 41 rfl dX9_isOfKind_38 (ck_X9_285 rfl) hq (ci := 8) rfl (by decide +kernel) ?_
  refine r_zreturn rfl rfl dX9_isOfKind_41 (Nat.le_of_ble_eq_true rfl) (Nat.le_of_ble_eq_true rfl) ?_
  exact k

set_option maxHeartbeats 4000000 in
set_option maxRecDepth 20000 in
theorem c_iok_4_3 {Q : am_P} {h : Nat → am_E} {n : Nat} {q : Nat} {fs : List Value} (hq : h q = .inr (.inr (8, fs))) (k : Q (some (.int 1)) h n) : AW mX9_isOfKind Q 0 (am_ent (am_l mX9_isOfKind) [.ref q, .int 3]) [] (h) n 0 0 := by
  show AW _ _ 0 [some (.ref q), some (.int 3)] [] _ _ 0 0
  refine r_iload_n 1 rfl 1 dX9_isOfKind_0 rfl rfl ?_
  refine r_tabIn 42 dX9_isOfKind_1 (by decide) (by decide) rfl rfl ?_
  refine r_aload_n 43 rfl 0 dX9_isOfKind_42 rfl rfl ?_
  refine r_instY 46 rfl dX9_isOfKind_43 (ck_X9_288 rfl) hq (ci := 8) rfl (Or.inr (by decide +kernel)) ?_
  refine r_zreturn rfl rfl dX9_isOfKind_46 (Nat.le_of_ble_eq_true rfl) (Nat.le_of_ble_eq_true rfl) ?_
  exact k

set_option maxHeartbeats 4000000 in
set_option maxRecDepth 20000 in
theorem c_iok_4_4 {Q : am_P} {h : Nat → am_E} {n : Nat} {q : Nat} {fs : List Value} (hq : h q = .inr (.inr (8, fs))) (k : Q (some (.int 1)) h n) : AW mX9_isOfKind Q 0 (am_ent (am_l mX9_isOfKind) [.ref q, .int 4]) [] (h) n 0 0 := by
  show AW _ _ 0 [some (.ref q), some (.int 4)] [] _ _ 0 0
  refine r_iload_n 1 rfl 1 dX9_isOfKind_0 rfl rfl ?_
  refine r_tabIn 47 dX9_isOfKind_1 (by decide) (by decide) rfl rfl ?_
  refine r_aload_n 48 rfl 0 dX9_isOfKind_47 rfl rfl ?_
  refine r_instY 51 rfl dX9_isOfKind_48 (ck_X9_291 rfl) hq (ci := 8) rfl (Or.inl rfl) ?_
  refine r_zreturn rfl rfl dX9_isOfKind_51 (Nat.le_of_ble_eq_true rfl) (Nat.le_of_ble_eq_true rfl) ?_
  exact k

def so_is (kk kd : Nat) : Bool := kk == 0 || kk == kd || (kk == 3 && kd == 4)
theorem c_iok {Q : am_P} {h : Nat → am_E} {n : Nat} {q kd kk : Nat} {fs : List Value} (hq : h q = .inr (.inr (kc kd, fs))) (hkd : kd ≤ 4) (hkk : kk < 5) (k : Q (some (.int (if so_is kk kd = true then 1 else 0))) h n) : AW mX9_isOfKind Q 0 (am_ent (am_l mX9_isOfKind) [.ref q, .int (nI kk)]) [] h n 0 0 := by
  rcases (show kd = 0 ∨ kd = 1 ∨ kd = 2 ∨ kd = 3 ∨ kd = 4 by omega) with rfl | rfl | rfl | rfl | rfl <;> rcases (show kk = 0 ∨ kk = 1 ∨ kk = 2 ∨ kk = 3 ∨ kk = 4 by omega) with rfl | rfl | rfl | rfl | rfl
  · exact c_iok_0_0 hq k
  · exact c_iok_0_1 hq k
  · exact c_iok_0_2 hq k
  · exact c_iok_0_3 hq k
  · exact c_iok_0_4 hq k
  · exact c_iok_1_0 hq k
  · exact c_iok_1_1 hq k
  · exact c_iok_1_2 hq k
  · exact c_iok_1_3 hq k
  · exact c_iok_1_4 hq k
  · exact c_iok_2_0 hq k
  · exact c_iok_2_1 hq k
  · exact c_iok_2_2 hq k
  · exact c_iok_2_3 hq k
  · exact c_iok_2_4 hq k
  · exact c_iok_3_0 hq k
  · exact c_iok_3_1 hq k
  · exact c_iok_3_2 hq k
  · exact c_iok_3_3 hq k
  · exact c_iok_3_4 hq k
  · exact c_iok_4_0 hq k
  · exact c_iok_4_1 hq k
  · exact c_iok_4_2 hq k
  · exact c_iok_4_3 hq k
  · exact c_iok_4_4 hq k

set_option maxHeartbeats 4000000 in
set_option maxRecDepth 20000 in
theorem c9_as_n {Q : am_P} {z : am_Z} {m : Nat → Nat → Int32} {n : Nat} {D : Nat → Nat → Nat} (hC : C9 z m D){x : Int32} (hx : x.toInt < 0 ∨ (D 7 1 : Int) ≤ x.toInt) {y : Int32} (k : Q (some (.int (-101))) (wd z m) n) : AW mX9_as Q 0 (am_ent (am_l mX9_as) [.ref 1, .int x, .int y]) [] (wd z m) n 0 0 := by
  show AW _ _ 0 [some (.ref 1), some (.int x), some (.int y), none] [] _ _ 0 0
  obtain ⟨hg, hfd, hf3, hf0, hns, hn6, hsd, hsb, hwi, hw4, hfr, hr1, hhr, hh⟩ := id hC
  refine r_aload_n 1 rfl 0 dX9_as_0 rfl rfl ?_
  refine r_iload_n 2 rfl 1 dX9_as_1 rfl rfl ?_
  refine q_V 5 0 0 rfl [.int x] rfl dX9_as_2 cl_X9_as__X9_find (lk_X9_128 rfl) im_X9_find (ci := 9) rfl sl_X9__X9_find rfl (Nat.le_of_ble_eq_true rfl) (fun _ _ => Nat.le_of_ble_eq_true rfl) rfl rfl (Nat.le_of_ble_eq_true rfl) (Nat.le_of_ble_eq_true rfl) ?_
  refine c_find_f hns hn6 hx (k_n ?_)
  refine r_astore_nN 6 rfl 3 [some (.ref 1), some (.int x), some (.int y), some .null] dX9_as_5 rfl (by decide) rfl ?_
  refine r_aload_nN 7 rfl 3 dX9_as_6 rfl rfl ?_
  refine r_ifnonnullN 10 rfl dX9_as_7 ?_
  refine r_bipush 12 rfl (-101) dX9_as_10 (by decide) ?_
  refine r_ireturn rfl dX9_as_12 (Nat.le_of_ble_eq_true rfl) (Nat.le_of_ble_eq_true rfl) ?_
  exact k

set_option maxHeartbeats 4000000 in
set_option maxRecDepth 20000 in
theorem c9_as_o {Q : am_P} {z : am_Z} {m : Nat → Nat → Int32} {n : Nat} {D : Nat → Nat → Nat} (hC : C9 z m D){s : Nat} (hs : s < D 7 1){y : Int32} (hy : y.toInt < 0 ∨ 5 ≤ y.toInt) (k : Q (some (.int (-102))) (wd z m) n) : AW mX9_as Q 0 (am_ent (am_l mX9_as) [.ref 1, .int (nI s), .int y]) [] (wd z m) n 0 0 := by
  show AW _ _ 0 [some (.ref 1), some (.int (nI s)), some (.int y), none] [] _ _ 0 0
  obtain ⟨hg, hfd, hf3, hf0, hns, hn6, hsd, hsb, hwi, hw4, hfr, hr1, hhr, hh⟩ := id hC
  obtain ⟨q, hzr, hq, hz, hkd, hpa, hce, hsg1, hsg⟩ := hsd s hs
  obtain ⟨b1, b2, b3, b4⟩ := hsb s hs
  refine r_aload_n 1 rfl 0 dX9_as_0 rfl rfl ?_
  refine r_iload_n 2 rfl 1 dX9_as_1 rfl rfl ?_
  refine q_V 5 0 0 rfl [.int (nI s)] rfl dX9_as_2 cl_X9_as__X9_find (lk_X9_128 rfl) im_X9_find (ci := 9) rfl sl_X9__X9_find rfl (Nat.le_of_ble_eq_true rfl) (fun _ _ => Nat.le_of_ble_eq_true rfl) rfl rfl (Nat.le_of_ble_eq_true rfl) (Nat.le_of_ble_eq_true rfl) ?_
  refine c_find_t hns hn6 hs hzr (k_r ?_)
  refine r_astore_n 6 rfl 3 [some (.ref 1), some (.int (nI s)), some (.int y), some (.ref q)] dX9_as_5 rfl (by decide) rfl ?_
  refine r_aload_n 7 rfl 3 dX9_as_6 rfl rfl ?_
  refine r_ifnonnull 13 dX9_as_7 rfl ?_
  refine r_iload_n 14 rfl 2 dX9_as_13 rfl rfl ?_
  refine r_if_lt 17 22 rfl dX9_as_14 rfl (fun c14 => ?_) (fun c14 => ?_)
  · replace c14 : y.toInt < (0 : Int) := Int32.lt_iff_toInt_lt.mp c14
    refine r_bipush 24 rfl (-102) dX9_as_22 (by decide) ?_
    refine r_ireturn rfl dX9_as_24 (Nat.le_of_ble_eq_true rfl) (Nat.le_of_ble_eq_true rfl) ?_
    exact k
  · replace c14 : ¬ y.toInt < (0 : Int) := fun q__ => c14 (Int32.lt_iff_toInt_lt.mpr q__)
    refine r_iload_n 18 rfl 2 dX9_as_17 rfl rfl ?_
    refine r_iconst 19 rfl 5 dX9_as_18 rfl ?_
    refine r_icmp_lt 22 25 rfl dX9_as_19 rfl (fun c19 => ?_) (fun c19 => ?_)
    · replace c19 : y.toInt < (5 : Int) := Int32.lt_iff_toInt_lt.mp c19
      exfalso; omega
    · replace c19 : ¬ y.toInt < (5 : Int) := fun q__ => c19 (Int32.lt_iff_toInt_lt.mpr q__)
      refine r_bipush 24 rfl (-102) dX9_as_22 (by decide) ?_
      refine r_ireturn rfl dX9_as_24 (Nat.le_of_ble_eq_true rfl) (Nat.le_of_ble_eq_true rfl) ?_
      exact k

set_option maxHeartbeats 4000000 in
set_option maxRecDepth 20000 in
theorem c9_as_t {Q : am_P} {z : am_Z} {m : Nat → Nat → Int32} {n : Nat} {D : Nat → Nat → Nat} (hC : C9 z m D){s : Nat} (hs : s < D 7 1) {kk : Nat} (hkk : kk < 5) (k : Q (some (.int (if so_is kk (D 1 s) = true then nI s else -1))) (wd z m) n) : AW mX9_as Q 0 (am_ent (am_l mX9_as) [.ref 1, .int (nI s), .int (nI kk)]) [] (wd z m) n 0 0 := by
  show AW _ _ 0 [some (.ref 1), some (.int (nI s)), some (.int (nI kk)), none] [] _ _ 0 0
  obtain ⟨hg, hfd, hf3, hf0, hns, hn6, hsd, hsb, hwi, hw4, hfr, hr1, hhr, hh⟩ := id hC
  obtain ⟨q, hzr, hq, hz, hkd, hpa, hce, hsg1, hsg⟩ := hsd s hs
  obtain ⟨b1, b2, b3, b4⟩ := hsb s hs
  refine r_aload_n 1 rfl 0 dX9_as_0 rfl rfl ?_
  refine r_iload_n 2 rfl 1 dX9_as_1 rfl rfl ?_
  refine q_V 5 0 0 rfl [.int (nI s)] rfl dX9_as_2 cl_X9_as__X9_find (lk_X9_128 rfl) im_X9_find (ci := 9) rfl sl_X9__X9_find rfl (Nat.le_of_ble_eq_true rfl) (fun _ _ => Nat.le_of_ble_eq_true rfl) rfl rfl (Nat.le_of_ble_eq_true rfl) (Nat.le_of_ble_eq_true rfl) ?_
  refine c_find_t hns hn6 hs hzr (k_r ?_)
  refine r_astore_n 6 rfl 3 [some (.ref 1), some (.int (nI s)), some (.int (nI kk)), some (.ref q)] dX9_as_5 rfl (by decide) rfl ?_
  refine r_aload_n 7 rfl 3 dX9_as_6 rfl rfl ?_
  refine r_ifnonnull 13 dX9_as_7 rfl ?_
  refine r_iload_n 14 rfl 2 dX9_as_13 rfl rfl ?_
  refine r_if_lt 17 22 rfl dX9_as_14 rfl (fun q__ => absurd q__ (fun q__ => absurd ((nI_ltI (a := kk) (b := 0) (by omega) (by omega)).mp q__) (by omega))) (fun _ => ?_)
  refine r_iload_n 18 rfl 2 dX9_as_17 rfl rfl ?_
  refine r_iconst 19 rfl 5 dX9_as_18 rfl ?_
  refine r_icmp_lt 22 25 rfl dX9_as_19 rfl (fun _ => ?_) (fun q__ => absurd ((nI_ltI (a := kk) (b := 5) (by omega) (by omega)).mpr (by omega)) q__)
  refine r_aload_n 26 rfl 3 dX9_as_25 rfl rfl ?_
  refine r_iload_n 27 rfl 2 dX9_as_26 rfl rfl ?_
  refine q_S 30 0 0 rfl [.ref q, .int (nI kk)] rfl dX9_as_27 cl_X9_as__X9_isOfKind (lk_X9_160 rfl) st_X9_isOfKind (Nat.le_of_ble_eq_true rfl) (fun _ _ => Nat.le_of_ble_eq_true rfl) rfl rfl (Nat.le_of_ble_eq_true rfl) (Nat.le_of_ble_eq_true rfl) ?_
  refine c_iok (wd_dy hq hz) hkd hkk (k_i ?_)
  by_cases hso : so_is kk (D 1 s) = true
  · rw [if_pos hso] at k ⊢
    refine r_if_eq 33 37 rfl dX9_as_30 rfl (fun q__ => absurd q__ (by decide)) (fun _ => ?_)
    refine r_iload_n 34 rfl 1 dX9_as_33 rfl rfl ?_
    refine r_goto 38 dX9_as_34 rfl ?_
    refine r_ireturn rfl dX9_as_38 (Nat.le_of_ble_eq_true rfl) (Nat.le_of_ble_eq_true rfl) ?_
    exact k
  · rw [if_neg hso] at k ⊢
    refine r_if_eq 33 37 rfl dX9_as_30 rfl (fun _ => ?_) (fun q__ => absurd (by decide) q__)
    refine r_iconst 38 rfl (-1) dX9_as_37 rfl ?_
    refine r_ireturn rfl dX9_as_38 (Nat.le_of_ble_eq_true rfl) (Nat.le_of_ble_eq_true rfl) ?_
    exact k

set_option maxHeartbeats 4000000 in
set_option maxRecDepth 20000 in
theorem c10_as_n {Q : am_P} {z : am_Z} {m : Nat → Nat → Int32} {n : Nat} {D : Nat → Nat → Nat} (hC : C10 m D){x : Int32} (hx : x.toInt < 0 ∨ (D 7 1 : Int) ≤ x.toInt) {y : Int32} (k : Q (some (.int (-101))) (wd z m) n) : AW mX10_as Q 0 (am_ent (am_l mX10_as) [.ref 37, .int x, .int y]) [] (wd z m) n 0 0 := by
  show AW _ _ 0 [some (.ref 37), some (.int x), some (.int y), none, none] [] _ _ 0 0
  obtain ⟨hg, hfd, hf3, hf0, hns, hn7, hmr, hwi, hw4, hfr, hr1, hhr, hh⟩ := id hC
  refine r_aload_n 1 rfl 0 dX10_as_0 rfl rfl ?_
  refine r_iload_n 2 rfl 1 dX10_as_1 rfl rfl ?_
  refine q_V 5 0 0 rfl [.int x] rfl dX10_as_2 cl_X10_as__X10_isSource (lk_X10_167 rfl) im_X10_isSource (ci := 10) rfl sl_X10__X10_isSource rfl (Nat.le_of_ble_eq_true rfl) (fun _ _ => Nat.le_of_ble_eq_true rfl) rfl rfl (Nat.le_of_ble_eq_true rfl) (Nat.le_of_ble_eq_true rfl) ?_
  refine c_isSource_f hns hn7 hx (k_i ?_)
  refine r_if_ne 8 11 rfl dX10_as_5 rfl (fun q__ => absurd (by decide) q__) (fun _ => ?_)
  refine r_bipush 10 rfl (-101) dX10_as_8 (by decide) ?_
  refine r_ireturn rfl dX10_as_10 (Nat.le_of_ble_eq_true rfl) (Nat.le_of_ble_eq_true rfl) ?_
  exact k

set_option maxHeartbeats 4000000 in
set_option maxRecDepth 20000 in
theorem c10_as_o {Q : am_P} {z : am_Z} {m : Nat → Nat → Int32} {n : Nat} {D : Nat → Nat → Nat} (hC : C10 m D){s : Nat} (hs : s < D 7 1){y : Int32} (hy : y.toInt < 0 ∨ 5 ≤ y.toInt) (k : Q (some (.int (-102))) (wd z m) n) : AW mX10_as Q 0 (am_ent (am_l mX10_as) [.ref 37, .int (nI s), .int y]) [] (wd z m) n 0 0 := by
  show AW _ _ 0 [some (.ref 37), some (.int (nI s)), some (.int y), none, none] [] _ _ 0 0
  obtain ⟨hg, hfd, hf3, hf0, hns, hn7, hmr, hwi, hw4, hfr, hr1, hhr, hh⟩ := id hC
  obtain ⟨⟨e0, e1, e2, e3, e4, e5⟩, q1, q2, q3, q4, q5, q6⟩ := hmr s hs
  refine r_aload_n 1 rfl 0 dX10_as_0 rfl rfl ?_
  refine r_iload_n 2 rfl 1 dX10_as_1 rfl rfl ?_
  refine q_V 5 0 0 rfl [.int (nI s)] rfl dX10_as_2 cl_X10_as__X10_isSource (lk_X10_167 rfl) im_X10_isSource (ci := 10) rfl sl_X10__X10_isSource rfl (Nat.le_of_ble_eq_true rfl) (fun _ _ => Nat.le_of_ble_eq_true rfl) rfl rfl (Nat.le_of_ble_eq_true rfl) (Nat.le_of_ble_eq_true rfl) ?_
  refine c_isSource_t hns (by omega) hs (k_i ?_)
  refine r_if_ne 8 11 rfl dX10_as_5 rfl (fun _ => ?_) (fun q__ => absurd q__ (by decide))
  refine r_iload_n 12 rfl 2 dX10_as_11 rfl rfl ?_
  refine r_i2l 13 rfl dX10_as_12 ?_
  refine r_lconst 14 rfl 0 dX10_as_13 rfl ?_
  refine r_ldc2 17 rfl 4 dX10_as_14 (cn_X10_113 rfl) ?_
  refine q_S 20 0 0 rfl [.long y.toInt64, .long 0, .long 4] rfl dX10_as_17 cl_X10_as__X10_in (lk_X10_64 rfl) st_X10_in (Nat.le_of_ble_eq_true rfl) (fun _ _ => Nat.le_of_ble_eq_true rfl) rfl rfl (Nat.le_of_ble_eq_true rfl) (Nat.le_of_ble_eq_true rfl) ?_
  refine c_in_f (show y.toInt64.toInt < (0 : Int) ∨ (4 : Int) < y.toInt64.toInt by rw [Int32.toInt_toInt64]; omega) (k_i ?_)
  refine r_if_ne 23 26 rfl dX10_as_20 rfl (fun q__ => absurd (by decide) q__) (fun _ => ?_)
  refine r_bipush 25 rfl (-102) dX10_as_23 (by decide) ?_
  refine r_ireturn rfl dX10_as_25 (Nat.le_of_ble_eq_true rfl) (Nat.le_of_ble_eq_true rfl) ?_
  exact k

set_option maxHeartbeats 4000000 in
set_option maxRecDepth 20000 in
theorem c10_as_t {Q : am_P} {z : am_Z} {m : Nat → Nat → Int32} {n : Nat} {D : Nat → Nat → Nat} (hC : C10 m D){s : Nat} (hs : s < D 7 1) {kk : Nat} (hkk : kk < 5) (k : Q (some (.int (if so_is kk (D 1 s) = true then nI s else -1))) (wd z m) n) : AW mX10_as Q 0 (am_ent (am_l mX10_as) [.ref 37, .int (nI s), .int (nI kk)]) [] (wd z m) n 0 0 := by
  show AW _ _ 0 [some (.ref 37), some (.int (nI s)), some (.int (nI kk)), none, none] [] _ _ 0 0
  obtain ⟨hg, hfd, hf3, hf0, hns, hn7, hmr, hwi, hw4, hfr, hr1, hhr, hh⟩ := id hC
  obtain ⟨⟨e0, e1, e2, e3, e4, e5⟩, q1, q2, q3, q4, q5, q6⟩ := hmr s hs
  refine r_aload_n 1 rfl 0 dX10_as_0 rfl rfl ?_
  refine r_iload_n 2 rfl 1 dX10_as_1 rfl rfl ?_
  refine q_V 5 0 0 rfl [.int (nI s)] rfl dX10_as_2 cl_X10_as__X10_isSource (lk_X10_167 rfl) im_X10_isSource (ci := 10) rfl sl_X10__X10_isSource rfl (Nat.le_of_ble_eq_true rfl) (fun _ _ => Nat.le_of_ble_eq_true rfl) rfl rfl (Nat.le_of_ble_eq_true rfl) (Nat.le_of_ble_eq_true rfl) ?_
  refine c_isSource_t hns (by omega) hs (k_i ?_)
  refine r_if_ne 8 11 rfl dX10_as_5 rfl (fun _ => ?_) (fun q__ => absurd q__ (by decide))
  refine r_iload_n 12 rfl 2 dX10_as_11 rfl rfl ?_
  refine r_i2l 13 rfl dX10_as_12 ?_
  refine r_lconst 14 rfl 0 dX10_as_13 rfl ?_
  refine r_ldc2 17 rfl 4 dX10_as_14 (cn_X10_113 rfl) ?_
  refine q_S 20 0 0 rfl [.long ((nI kk).toInt64), .long 0, .long 4] rfl dX10_as_17 cl_X10_as__X10_in (lk_X10_64 rfl) st_X10_in (Nat.le_of_ble_eq_true rfl) (fun _ _ => Nat.le_of_ble_eq_true rfl) rfl rfl (Nat.le_of_ble_eq_true rfl) (Nat.le_of_ble_eq_true rfl) ?_
  refine c_in_t (show (0 : Int) ≤ (nI kk).toInt64.toInt by rw [Int32.toInt_toInt64, nI_toInt (by omega)]; omega) (show (nI kk).toInt64.toInt ≤ (4 : Int) by rw [Int32.toInt_toInt64, nI_toInt (by omega)]; omega) (k_i ?_)
  refine r_if_ne 23 26 rfl dX10_as_20 rfl (fun _ => ?_) (fun q__ => absurd q__ (by decide))
  refine r_aload_n 27 rfl 0 dX10_as_26 rfl rfl ?_
  refine r_getf (v := .ref 42) (k := 11) 30 rfl dX10_as_27 (gf_X10_22_10 rfl) rfl rfl ?_
  refine r_bipush 32 rfl 6 dX10_as_30 (by decide) ?_
  refine r_iload_n 33 rfl 1 dX10_as_32 rfl rfl ?_
  refine r_imul 34 rfl dX10_as_33 ?_
  rw [show 6 * (nI s) = nI (6 * s) from pk_mul 6 s]
  refine r_iald (f := m 42) 35 rfl (6 * s) dX10_as_34 rfl rfl (by omega) (by decide) ?_
  rw [show (m 42) (6 * s) = nI (D 1 s) from e0]
  refine r_istore_n 36 rfl 3 [some (.ref 37), some (.int (nI s)), some (.int (nI kk)), some (.int (nI (D 1 s))), none] dX10_as_35 rfl (by decide) rfl ?_
  refine r_iload_n 37 rfl 2 dX10_as_36 rfl rfl ?_
  refine r_if_eq 40 55 rfl dX10_as_37 rfl (fun c37 => ?_) (fun c37 => ?_)
  · replace c37 : kk = 0 := (nI_eq (a := kk) (b := 0) (by omega) (by omega)).mp c37
    refine r_iconst 56 rfl 1 dX10_as_55 rfl ?_
    refine r_goto 60 dX10_as_56 rfl ?_
    refine r_istore 62 rfl [some (.ref 37), some (.int (nI s)), some (.int (nI kk)), some (.int (nI (D 1 s))), some (.int 1)] dX10_as_60 (by decide) rfl ?_
    refine r_iload 64 rfl dX10_as_62 rfl ?_
    refine r_if_eq 67 71 rfl dX10_as_64 rfl (fun q__ => absurd q__ (by decide)) (fun _ => ?_)
    refine r_iload_n 68 rfl 1 dX10_as_67 rfl rfl ?_
    refine r_goto 72 dX10_as_68 rfl ?_
    refine r_ireturn rfl dX10_as_72 (Nat.le_of_ble_eq_true rfl) (Nat.le_of_ble_eq_true rfl) ?_
    rw [if_pos (by unfold so_is; simp; omega)] at k
    exact k
  · replace c37 : ¬ kk = 0 := fun q__ => c37 ((nI_eq (a := kk) (b := 0) (by omega) (by omega)).mpr q__)
    refine r_iload_n 41 rfl 2 dX10_as_40 rfl rfl ?_
    refine r_iload_n 42 rfl 3 dX10_as_41 rfl rfl ?_
    refine r_icmp_eq 45 55 rfl dX10_as_42 rfl (fun c42 => ?_) (fun c42 => ?_)
    · replace c42 : kk = D 1 s := (nI_eq (a := kk) (b := (D 1 s)) (by omega) (by omega)).mp c42
      refine r_iconst 56 rfl 1 dX10_as_55 rfl ?_
      refine r_goto 60 dX10_as_56 rfl ?_
      refine r_istore 62 rfl [some (.ref 37), some (.int (nI s)), some (.int (nI kk)), some (.int (nI (D 1 s))), some (.int 1)] dX10_as_60 (by decide) rfl ?_
      refine r_iload 64 rfl dX10_as_62 rfl ?_
      refine r_if_eq 67 71 rfl dX10_as_64 rfl (fun q__ => absurd q__ (by decide)) (fun _ => ?_)
      refine r_iload_n 68 rfl 1 dX10_as_67 rfl rfl ?_
      refine r_goto 72 dX10_as_68 rfl ?_
      refine r_ireturn rfl dX10_as_72 (Nat.le_of_ble_eq_true rfl) (Nat.le_of_ble_eq_true rfl) ?_
      rw [if_pos (by unfold so_is; simp; omega)] at k
      exact k
    · replace c42 : ¬ kk = (D 1 s) := fun q__ => c42 ((nI_eq (a := kk) (b := (D 1 s)) (by omega) (by omega)).mpr q__)
      refine r_iload_n 46 rfl 2 dX10_as_45 rfl rfl ?_
      refine r_iconst 47 rfl 3 dX10_as_46 rfl ?_
      refine r_icmp_ne 50 59 rfl dX10_as_47 rfl (fun c47 => ?_) (fun c47 => ?_)
      · replace c47 : ¬ kk = 3 := fun q__ => c47 ((nI_eq (a := kk) (b := 3) (by omega) (by omega)).mpr q__)
        refine r_iconst 60 rfl 0 dX10_as_59 rfl ?_
        refine r_istore 62 rfl [some (.ref 37), some (.int (nI s)), some (.int (nI kk)), some (.int (nI (D 1 s))), some (.int 0)] dX10_as_60 (by decide) rfl ?_
        refine r_iload 64 rfl dX10_as_62 rfl ?_
        refine r_if_eq 67 71 rfl dX10_as_64 rfl (fun _ => ?_) (fun q__ => absurd (by decide) q__)
        refine r_iconst 72 rfl (-1) dX10_as_71 rfl ?_
        refine r_ireturn rfl dX10_as_72 (Nat.le_of_ble_eq_true rfl) (Nat.le_of_ble_eq_true rfl) ?_
        rw [if_neg (by unfold so_is; simp; omega)] at k
        exact k
      · replace c47 : kk = 3 := (nI_eq (a := kk) (b := 3) (by omega) (by omega)).mp c47
        refine r_iload_n 51 rfl 3 dX10_as_50 rfl rfl ?_
        refine r_iconst 52 rfl 4 dX10_as_51 rfl ?_
        refine r_icmp_ne 55 59 rfl dX10_as_52 rfl (fun c52 => ?_) (fun c52 => ?_)
        · replace c52 : ¬ (D 1 s) = 4 := fun q__ => c52 ((nI_eq (a := (D 1 s)) (b := 4) (by omega) (by omega)).mpr q__)
          refine r_iconst 60 rfl 0 dX10_as_59 rfl ?_
          refine r_istore 62 rfl [some (.ref 37), some (.int (nI s)), some (.int (nI kk)), some (.int (nI (D 1 s))), some (.int 0)] dX10_as_60 (by decide) rfl ?_
          refine r_iload 64 rfl dX10_as_62 rfl ?_
          refine r_if_eq 67 71 rfl dX10_as_64 rfl (fun _ => ?_) (fun q__ => absurd (by decide) q__)
          refine r_iconst 72 rfl (-1) dX10_as_71 rfl ?_
          refine r_ireturn rfl dX10_as_72 (Nat.le_of_ble_eq_true rfl) (Nat.le_of_ble_eq_true rfl) ?_
          rw [if_neg (by unfold so_is; simp; omega)] at k
          exact k
        · replace c52 : D 1 s = 4 := (nI_eq (a := (D 1 s)) (b := 4) (by omega) (by omega)).mp c52
          refine r_iconst 56 rfl 1 dX10_as_55 rfl ?_
          refine r_goto 60 dX10_as_56 rfl ?_
          refine r_istore 62 rfl [some (.ref 37), some (.int (nI s)), some (.int (nI kk)), some (.int (nI (D 1 s))), some (.int 1)] dX10_as_60 (by decide) rfl ?_
          refine r_iload 64 rfl dX10_as_62 rfl ?_
          refine r_if_eq 67 71 rfl dX10_as_64 rfl (fun q__ => absurd q__ (by decide)) (fun _ => ?_)
          refine r_iload_n 68 rfl 1 dX10_as_67 rfl rfl ?_
          refine r_goto 72 dX10_as_68 rfl ?_
          refine r_ireturn rfl dX10_as_72 (Nat.le_of_ble_eq_true rfl) (Nat.le_of_ble_eq_true rfl) ?_
          rw [if_pos (by unfold so_is; simp; omega)] at k
          exact k

set_option maxHeartbeats 4000000 in
set_option maxRecDepth 20000 in
theorem P_as {i : Nat} {z : am_Z} {m : Nat → Nat → Int32} {n : Nat} {D K : Nat → Nat → Nat} (hI : IV i z m n D K) (hi : i + 5 ≤ 2560) (x : Int32) (y : Int32) : AW mX9_as (PR (i + 5) mX10_as [.ref 37, .int x, .int y]) 0 (am_ent (am_l mX9_as) [.ref 1, .int x, .int y]) [] (wd z m) n 0 0 := by
  obtain ⟨h9, h10, hnz, hpg, hop, hnw, hct, him⟩ := id hI
  obtain ⟨hg, hfd, hf3, hf0, hns, hn6, hsd, hsb, hwi, hw4, hfr, hr1, hhr, hh⟩ := id h9
  by_cases hx : x.toInt < 0 ∨ (D 7 1 : Int) ≤ x.toInt
  · exact c9_as_n h9 hx (PR_i (fun Q2 k => c10_as_n h10 hx (k _ _ _ _ _ (IV_mono hI (by omega) hi))))
  · obtain ⟨s, hs, rfl⟩ := (i_cases x (D 7 1) (by omega)).resolve_left hx
    rcases i_cases y 5 (by decide) with hy | ⟨kk, hkk, rfl⟩
    · exact c9_as_o h9 hs hy (PR_i (fun Q2 k => c10_as_o h10 hs hy (k _ _ _ _ _ (IV_mono hI (by omega) hi))))
    · exact c9_as_t h9 hs hkk (PR_i (fun Q2 k => c10_as_t h10 hs hkk (k _ _ _ _ _ (IV_mono hI (by omega) hi))))
