theorem IV_kp {i : Nat} {z : am_Z} {m m' : Nat → Nat → Int32} {n : Nat} {D K K' : Nat → Nat → Nat} (h : IV i z m n D K) (hag : ag [1, 14, 15, 16, 17, 18, 19, 20, 37, 50, 51, 52, 53] m m') (h1 : ∀ j, j ≠ 11 → m' 1 j = m 1 j) (h37 : ∀ j, j < 23 → m' 37 j = m 37 j) (him' : IM i m' D K') : IV i z m' n D K' := by
  obtain ⟨a, b, c, d, e, f, g, k⟩ := h
  have q (x : Nat) (hx : x ∉ [1, 14, 15, 16, 17, 18, 19, 20, 37, 50, 51, 52, 53]) : m' x = m x := hag x hx
  refine ⟨C9_ag a hag (by decide), ?_, c, ?_, ?_, ?_, ?_, him'⟩
  · obtain ⟨hg, hfd, hf3, hf1, hns, hn7, hmr, hwi, hw4, hfr, hr1, hhr, hh⟩ := b
    refine ⟨fun j hj => ?_, ?_, hf3, hf1, ?_, hn7, MR_ag hmr (q 42 (by decide)), ?_, hw4, ?_, hr1, ?_, hh⟩
    · rw [q 39 (by decide)]; exact hg j hj
    · rw [h37 2 (by decide)]; exact hfd
    · rw [h37 10 (by decide)]; exact hns
    · rw [h37 3 (by decide)]; exact hwi
    · rw [h37 4 (by decide)]; exact hfr
    · rw [h37 5 (by decide)]; exact hhr
  · unfold PG at *; rw [q 2 (by decide), q 3 (by decide), q 38 (by decide), h37 1 (by decide)]; exact d
  · unfold OP at *; rw [q 4 (by decide)]; exact e
  · unfold NW PT BL at *; simp only [Nat.reduceAdd] at *
    rw [q 7 (by decide), q 8 (by decide), q 10 (by decide), q 11 (by decide), q 12 (by decide), q 13 (by decide), q 40 (by decide), q 41 (by decide), q 48 (by decide), h37 18 (by decide)]; exact f
  · unfold CT at *; rw [h1 12 (by decide), h1 13 (by decide), h1 14 (by decide), h37 6 (by decide), h37 15 (by decide), h37 19 (by decide)]; exact g
def RS (D K : Nat → Nat → Nat) : Nat → Nat → Nat := fun t => if t = 5 then K 5 else if t = 6 then K 6 else if t = 7 then va_up (K 7) 0 (D 7 0) else if t = 8 then va_up (D 8) 1 (K 8 1) else D t

set_option maxHeartbeats 4000000 in
set_option maxRecDepth 20000 in
theorem c9_image_s {Q : am_P} {z : am_Z} {m : Nat → Nat → Int32} {n : Nat} (hfd : m 4 2 = nI 0) (k : Q (some (.int (-103))) (wd z m) n) : AW mX9_image Q 0 (am_ent (am_l mX9_image) [.ref 1]) [] (wd z m) n 0 0 := by
  show AW _ _ 0 [some (.ref 1)] [] _ _ 0 0
  refine r_aload_n 1 rfl 0 dX9_image_0 rfl rfl ?_
  refine r_getf (v := .ref 4) (k := 1) 4 rfl dX9_image_1 (gf_X9_19_9 rfl) rfl rfl ?_
  refine q_V 7 0 0 rfl [] rfl dX9_image_4 cl_X9_image__X7_isThere (lk_X9_171 rfl) im_X7_isThere (ci := 7) rfl sl_X7__X7_isThere rfl (Nat.le_of_ble_eq_true rfl) (fun _ _ => Nat.le_of_ble_eq_true rfl) rfl rfl (Nat.le_of_ble_eq_true rfl) (Nat.le_of_ble_eq_true rfl) ?_
  refine c_isThere_f hfd (k_i ?_)
  refine r_if_ne 10 13 rfl dX9_image_7 rfl (fun q__ => absurd (by decide) q__) (fun _ => ?_)
  refine r_bipush 12 rfl (-103) dX9_image_10 (by decide) ?_
  refine r_ireturn rfl dX9_image_12 (Nat.le_of_ble_eq_true rfl) (Nat.le_of_ble_eq_true rfl) ?_
  exact k

set_option maxHeartbeats 4000000 in
set_option maxRecDepth 20000 in
theorem c9_image_t {Q : am_P} {z : am_Z} {m : Nat → Nat → Int32} {n : Nat} {fr : Nat} (hbl : BL m 7) (hfr : m 7 4 = nI fr) (hr1 : fr ≤ 1){fd : Nat} (hfd : m 4 2 = nI fd) (hf1 : 1 ≤ fd) (hf3 : fd ≤ 3) (k : ∀ m', (m' 14 0 = m 7 0 ∧ m' 14 3 = m 7 3 ∧ m' 14 4 = m 7 4 ∧ m' 14 5 = m 7 5 ∧ m' 14 8 = m 7 8) → (∀ j, j < 6 → m' 15 j = m 8 j) → (∀ j, j < 6 → m' 16 j = m 9 j) → (∀ j, j < 8 → m' 17 j = m 10 j) → (∀ j, j < 3 → m' 18 j = m 11 j) → (∀ j, j < 8 → m' 19 j = m 12 j) → (∀ j, j < 8 → m' 20 j = m 13 j) → m' 1 = upd (m 1) 11 1 → ag [1, 14, 15, 16, 17, 18, 19, 20] m m' → Q (some (.int (m 7 5))) (wd z m') n) : AW mX9_image Q 0 (am_ent (am_l mX9_image) [.ref 1]) [] (wd z m) n 0 0 := by
  show AW _ _ 0 [some (.ref 1)] [] _ _ 0 0
  refine r_aload_n 1 rfl 0 dX9_image_0 rfl rfl ?_
  refine r_getf (v := .ref 4) (k := 1) 4 rfl dX9_image_1 (gf_X9_19_9 rfl) rfl rfl ?_
  refine q_V 7 0 0 rfl [] rfl dX9_image_4 cl_X9_image__X7_isThere (lk_X9_171 rfl) im_X7_isThere (ci := 7) rfl sl_X7__X7_isThere rfl (Nat.le_of_ble_eq_true rfl) (fun _ _ => Nat.le_of_ble_eq_true rfl) rfl rfl (Nat.le_of_ble_eq_true rfl) (Nat.le_of_ble_eq_true rfl) ?_
  refine c_isThere_t hfd hf1 hf3 (k_i ?_)
  refine r_if_ne 10 13 rfl dX9_image_7 rfl (fun _ => ?_) (fun q__ => absurd q__ (by decide))
  refine r_aload_n 14 rfl 0 dX9_image_13 rfl rfl ?_
  refine r_getf (v := .ref 14) (k := 4) 17 rfl dX9_image_14 (gf_X9_36_9 rfl) rfl rfl ?_
  refine r_aload_n 18 rfl 0 dX9_image_17 rfl rfl ?_
  refine r_getf (v := .ref 7) (k := 3) 21 rfl dX9_image_18 (gf_X9_32_9 rfl) rfl rfl ?_
  refine q_V 24 0 0 rfl [.ref 7] rfl dX9_image_21 cl_X9_image__X5_copyFrom (lk_X9_85 rfl) im_X5_copyFrom (ci := 5) rfl sl_X5__X5_copyFrom rfl (Nat.le_of_ble_eq_true rfl) (fun _ _ => Nat.le_of_ble_eq_true rfl) rfl rfl (Nat.le_of_ble_eq_true rfl) (Nat.le_of_ble_eq_true rfl) ?_
  refine c_cf_14_7 hbl hfr hr1 (fun m1 g0 g1 g2 g3 g4 g5 g6 hag => (k_v ?_))
  have e7 : m1 7 5 = m 7 5 := by rw [hag 7 (by decide)]
  refine r_aload_n 25 rfl 0 dX9_image_24 rfl rfl ?_
  refine r_iconst 26 rfl 1 dX9_image_25 rfl ?_
  refine w_putf 29 rfl (k := 11) (va_up m1 1 (upd (m1 1) 11 1)) dX9_image_26 (pf_X9_89_9 rfl) (by decide) (by decide) rfl (Nat.le_of_ble_eq_true rfl) rfl ⟨rfl, rfl⟩ rfl ?_
  refine r_aload_n 30 rfl 0 dX9_image_29 rfl rfl ?_
  refine r_getf (v := .ref 7) (k := 3) 33 rfl dX9_image_30 (gf_X9_32_9 rfl) rfl rfl ?_
  refine r_getf (v := .int ((m1 7) 5)) (k := 5) 36 rfl dX9_image_33 (gf_X9_192_5 rfl) rfl rfl ?_
  rw [show (m1 7) 5 = m 7 5 from e7]
  refine r_ireturn rfl dX9_image_36 (Nat.le_of_ble_eq_true rfl) (Nat.le_of_ble_eq_true rfl) ?_
  refine k _ g0 g1 g2 g3 g4 g5 g6 ?_ (ag_up (ag_w hag (by decide)) (by decide))
  rw [va_up_self, hag 1 (by decide)]

set_option maxHeartbeats 4000000 in
set_option maxRecDepth 20000 in
theorem c9_restore_s {Q : am_P} {z : am_Z} {m : Nat → Nat → Int32} {n : Nat} (h0 : m 1 11 = 0) (k : Q (some (.int (-103))) (wd z m) n) : AW mX9_restore Q 0 (am_ent (am_l mX9_restore) [.ref 1]) [] (wd z m) n 0 0 := by
  show AW _ _ 0 [some (.ref 1)] [] _ _ 0 0
  refine r_aload_n 1 rfl 0 dX9_restore_0 rfl rfl ?_
  refine r_getf (v := .int ((m 1) 11)) (k := 11) 4 rfl dX9_restore_1 (gf_X9_89_9 rfl) rfl rfl ?_
  rw [show (m 1) 11 = 0 from h0]
  refine r_if_ne 7 10 rfl dX9_restore_4 rfl (fun q__ => absurd (by decide) q__) (fun _ => ?_)
  refine r_bipush 9 rfl (-103) dX9_restore_7 (by decide) ?_
  refine r_ireturn rfl dX9_restore_9 (Nat.le_of_ble_eq_true rfl) (Nat.le_of_ble_eq_true rfl) ?_
  exact k

set_option maxHeartbeats 4000000 in
set_option maxRecDepth 20000 in
theorem c9_restore_t {Q : am_P} {z : am_Z} {m : Nat → Nat → Int32} {n : Nat} (h0 : m 1 11 = 1) {fr : Nat} (hbl : BL m 14) (hfr : m 14 4 = nI fr) (hr1 : fr ≤ 1) (k : ∀ m', (m' 7 0 = m 14 0 ∧ m' 7 3 = m 14 3 ∧ m' 7 4 = m 14 4 ∧ m' 7 5 = m 14 5 ∧ m' 7 8 = m 14 8) → (∀ j, j < 6 → m' 8 j = m 15 j) → (∀ j, j < 6 → m' 9 j = m 16 j) → (∀ j, j < 8 → m' 10 j = m 17 j) → (∀ j, j < 3 → m' 11 j = m 18 j) → (∀ j, j < 8 → m' 12 j = m 19 j) → (∀ j, j < 8 → m' 13 j = m 20 j) → ag [7, 8, 9, 10, 11, 12, 13] m m' → Q (some (.int (m 14 5))) (wd z m') n) : AW mX9_restore Q 0 (am_ent (am_l mX9_restore) [.ref 1]) [] (wd z m) n 0 0 := by
  show AW _ _ 0 [some (.ref 1)] [] _ _ 0 0
  refine r_aload_n 1 rfl 0 dX9_restore_0 rfl rfl ?_
  refine r_getf (v := .int ((m 1) 11)) (k := 11) 4 rfl dX9_restore_1 (gf_X9_89_9 rfl) rfl rfl ?_
  rw [show (m 1) 11 = 1 from h0]
  refine r_if_ne 7 10 rfl dX9_restore_4 rfl (fun _ => ?_) (fun q__ => absurd q__ (by decide))
  refine r_aload_n 11 rfl 0 dX9_restore_10 rfl rfl ?_
  refine r_getf (v := .ref 7) (k := 3) 14 rfl dX9_restore_11 (gf_X9_32_9 rfl) rfl rfl ?_
  refine r_aload_n 15 rfl 0 dX9_restore_14 rfl rfl ?_
  refine r_getf (v := .ref 14) (k := 4) 18 rfl dX9_restore_15 (gf_X9_36_9 rfl) rfl rfl ?_
  refine q_V 21 0 0 rfl [.ref 14] rfl dX9_restore_18 cl_X9_restore__X5_copyFrom (lk_X9_85 rfl) im_X5_copyFrom (ci := 5) rfl sl_X5__X5_copyFrom rfl (Nat.le_of_ble_eq_true rfl) (fun _ _ => Nat.le_of_ble_eq_true rfl) rfl rfl (Nat.le_of_ble_eq_true rfl) (Nat.le_of_ble_eq_true rfl) ?_
  refine c_cf_7_14 hbl hfr hr1 (fun m1 g0 g1 g2 g3 g4 g5 g6 hag => (k_v ?_))
  have e7 : m1 7 5 = m 14 5 := g0.2.2.2.1
  refine r_aload_n 22 rfl 0 dX9_restore_21 rfl rfl ?_
  refine r_getf (v := .ref 7) (k := 3) 25 rfl dX9_restore_22 (gf_X9_32_9 rfl) rfl rfl ?_
  refine r_getf (v := .int ((m1 7) 5)) (k := 5) 28 rfl dX9_restore_25 (gf_X9_192_5 rfl) rfl rfl ?_
  rw [show (m1 7) 5 = m 14 5 from e7]
  refine r_ireturn rfl dX9_restore_28 (Nat.le_of_ble_eq_true rfl) (Nat.le_of_ble_eq_true rfl) ?_
  exact k m1 g0 g1 g2 g3 g4 g5 g6 hag

set_option maxHeartbeats 4000000 in
set_option maxRecDepth 20000 in
theorem c10_image_s {Q : am_P} {z : am_Z} {m : Nat → Nat → Int32} {n : Nat} (hfd : m 37 2 = nI 0) (k : Q (some (.int (-103))) (wd z m) n) : AW mX10_image Q 0 (am_ent (am_l mX10_image) [.ref 37]) [] (wd z m) n 0 0 := by
  show AW _ _ 0 [some (.ref 37)] [] _ _ 0 0
  refine r_aload_n 1 rfl 0 dX10_image_0 rfl rfl ?_
  refine q_V 4 0 0 rfl [] rfl dX10_image_1 cl_X10_image__X10_lacks (lk_X10_109 rfl) im_X10_lacks (ci := 10) rfl sl_X10__X10_lacks rfl (Nat.le_of_ble_eq_true rfl) (fun _ _ => Nat.le_of_ble_eq_true rfl) rfl rfl (Nat.le_of_ble_eq_true rfl) (Nat.le_of_ble_eq_true rfl) ?_
  refine c_lacks_t hfd (k_i ?_)
  refine r_if_eq 7 10 rfl dX10_image_4 rfl (fun q__ => absurd q__ (by decide)) (fun _ => ?_)
  refine r_bipush 9 rfl (-103) dX10_image_7 (by decide) ?_
  refine r_ireturn rfl dX10_image_9 (Nat.le_of_ble_eq_true rfl) (Nat.le_of_ble_eq_true rfl) ?_
  exact k

set_option maxHeartbeats 4000000 in
set_option maxRecDepth 20000 in
theorem c10_image_t {Q : am_P} {z : am_Z} {m : Nat → Nat → Int32} {n : Nat} {fd : Nat} (hfd : m 37 2 = nI fd) (hf1 : 1 ≤ fd) (hf3 : fd ≤ 3) (k : ∀ m', (∀ j, j < 42 → m' 50 j = m 42 j) → (∀ j, j < 8 → m' 51 j = m 40 j) → (∀ j, j < 3 → m' 52 j = m 41 j) → (∀ j, j < 16 → m' 53 j = m 48 j) → m' 37 = upd (upd (upd (upd (upd (upd (m 37) 24 (m 37 10)) 25 (m 37 3)) 26 (m 37 4)) 27 (m 37 5)) 28 (m 37 18)) 23 (m 37 6) → ag [37, 50, 51, 52, 53] m m' → Q (some (.int (m 37 5))) (wd z m') n) : AW mX10_image Q 0 (am_ent (am_l mX10_image) [.ref 37]) [] (wd z m) n 0 0 := by
  show AW _ _ 0 [some (.ref 37)] [] _ _ 0 0
  refine r_aload_n 1 rfl 0 dX10_image_0 rfl rfl ?_
  refine q_V 4 0 0 rfl [] rfl dX10_image_1 cl_X10_image__X10_lacks (lk_X10_109 rfl) im_X10_lacks (ci := 10) rfl sl_X10__X10_lacks rfl (Nat.le_of_ble_eq_true rfl) (fun _ _ => Nat.le_of_ble_eq_true rfl) rfl rfl (Nat.le_of_ble_eq_true rfl) (Nat.le_of_ble_eq_true rfl) ?_
  refine c_lacks_f hfd hf1 hf3 (k_i ?_)
  refine r_if_eq 7 10 rfl dX10_image_4 rfl (fun _ => ?_) (fun q__ => absurd (by decide) q__)
  refine r_aload_n 11 rfl 0 dX10_image_10 rfl rfl ?_
  refine r_getf (v := .ref 42) (k := 11) 14 rfl dX10_image_11 (gf_X10_22_10 rfl) rfl rfl ?_
  refine r_aload_n 15 rfl 0 dX10_image_14 rfl rfl ?_
  refine r_getf (v := .ref 50) (k := 29) 18 rfl dX10_image_15 (gf_X10_46_10 rfl) rfl rfl ?_
  refine q_S 21 0 0 rfl [.ref 42, .ref 50] rfl dX10_image_18 cl_X10_image__X10_copy (lk_X10_186 rfl) st_X10_copy (Nat.le_of_ble_eq_true rfl) (fun _ _ => Nat.le_of_ble_eq_true rfl) rfl rfl (Nat.le_of_ble_eq_true rfl) (Nat.le_of_ble_eq_true rfl) ?_
  refine c_cp_42_50 (m := m) (fun m1 r50 hag50 => (k_v ?_))
  refine r_aload_n 22 rfl 0 dX10_image_21 rfl rfl ?_
  refine r_getf (v := .ref 40) (k := 8) 25 rfl dX10_image_22 (gf_X10_16_10 rfl) rfl rfl ?_
  refine r_aload_n 26 rfl 0 dX10_image_25 rfl rfl ?_
  refine r_getf (v := .ref 51) (k := 30) 29 rfl dX10_image_26 (gf_X10_49_10 rfl) rfl rfl ?_
  refine q_S 32 0 0 rfl [.ref 40, .ref 51] rfl dX10_image_29 cl_X10_image__X10_copy (lk_X10_186 rfl) st_X10_copy (Nat.le_of_ble_eq_true rfl) (fun _ _ => Nat.le_of_ble_eq_true rfl) rfl rfl (Nat.le_of_ble_eq_true rfl) (Nat.le_of_ble_eq_true rfl) ?_
  refine c_cp_40_51 (m := m1) (fun m2 r51 hag51 => (k_v ?_))
  refine r_aload_n 33 rfl 0 dX10_image_32 rfl rfl ?_
  refine r_getf (v := .ref 41) (k := 9) 36 rfl dX10_image_33 (gf_X10_19_10 rfl) rfl rfl ?_
  refine r_aload_n 37 rfl 0 dX10_image_36 rfl rfl ?_
  refine r_getf (v := .ref 52) (k := 31) 40 rfl dX10_image_37 (gf_X10_52_10 rfl) rfl rfl ?_
  refine q_S 43 0 0 rfl [.ref 41, .ref 52] rfl dX10_image_40 cl_X10_image__X10_copy (lk_X10_186 rfl) st_X10_copy (Nat.le_of_ble_eq_true rfl) (fun _ _ => Nat.le_of_ble_eq_true rfl) rfl rfl (Nat.le_of_ble_eq_true rfl) (Nat.le_of_ble_eq_true rfl) ?_
  refine c_cp_41_52 (m := m2) (fun m3 r52 hag52 => (k_v ?_))
  refine r_aload_n 44 rfl 0 dX10_image_43 rfl rfl ?_
  refine r_getf (v := .ref 48) (k := 20) 47 rfl dX10_image_44 (gf_X10_40_10 rfl) rfl rfl ?_
  refine r_aload_n 48 rfl 0 dX10_image_47 rfl rfl ?_
  refine r_getf (v := .ref 53) (k := 32) 51 rfl dX10_image_48 (gf_X10_55_10 rfl) rfl rfl ?_
  refine q_S 54 0 0 rfl [.ref 48, .ref 53] rfl dX10_image_51 cl_X10_image__X10_copy (lk_X10_186 rfl) st_X10_copy (Nat.le_of_ble_eq_true rfl) (fun _ _ => Nat.le_of_ble_eq_true rfl) rfl rfl (Nat.le_of_ble_eq_true rfl) (Nat.le_of_ble_eq_true rfl) ?_
  refine c_cp_48_53 (m := m3) (fun m4 r53 hag53 => (k_v ?_))
  have e37 : m4 37 = m 37 := by rw [hag53 37 (by decide), hag52 37 (by decide), hag51 37 (by decide), hag50 37 (by decide)]
  refine r_aload_n 55 rfl 0 dX10_image_54 rfl rfl ?_
  refine r_aload_n 56 rfl 0 dX10_image_55 rfl rfl ?_
  refine r_getf (v := .int ((m4 37) 10)) (k := 10) 59 rfl dX10_image_56 (gf_X10_95_10 rfl) rfl rfl ?_
  rw [show (m4 37) 10 = m 37 10 from (congrFun e37 10)]
  refine w_putf 62 rfl (k := 24) (va_up m4 37 (upd (m4 37) 24 (m 37 10))) dX10_image_59 (pf_X10_222_10 rfl) (by decide) (by decide) rfl (Nat.le_of_ble_eq_true rfl) rfl ⟨rfl, rfl⟩ rfl ?_
  refine r_aload_n 63 rfl 0 dX10_image_62 rfl rfl ?_
  refine r_aload_n 64 rfl 0 dX10_image_63 rfl rfl ?_
  refine r_getf (v := .int (m4 37 3)) (k := 3) 67 rfl dX10_image_64 (gf_X10_86_10 rfl) rfl rfl ?_
  rw [show m4 37 3 = m 37 3 from (congrFun e37 3)]
  refine w_putf 70 rfl (k := 25) (va_up (va_up m4 37 (upd (m4 37) 24 (m 37 10))) 37 (upd (upd (m4 37) 24 (m 37 10)) 25 (m 37 3))) dX10_image_67 (pf_X10_225_10 rfl) (by decide) (by decide) rfl (Nat.le_of_ble_eq_true rfl) rfl ⟨rfl, rfl⟩ rfl ?_
  refine r_aload_n 71 rfl 0 dX10_image_70 rfl rfl ?_
  refine r_aload_n 72 rfl 0 dX10_image_71 rfl rfl ?_
  refine r_getf (v := .int (m4 37 4)) (k := 4) 75 rfl dX10_image_72 (gf_X10_89_10 rfl) rfl rfl ?_
  rw [show m4 37 4 = m 37 4 from (congrFun e37 4)]
  refine w_putf 78 rfl (k := 26) (va_up (va_up (va_up m4 37 (upd (m4 37) 24 (m 37 10))) 37 (upd (upd (m4 37) 24 (m 37 10)) 25 (m 37 3))) 37 (upd (upd (upd (m4 37) 24 (m 37 10)) 25 (m 37 3)) 26 (m 37 4))) dX10_image_75 (pf_X10_228_10 rfl) (by decide) (by decide) rfl (Nat.le_of_ble_eq_true rfl) rfl ⟨rfl, rfl⟩ rfl ?_
  refine r_aload_n 79 rfl 0 dX10_image_78 rfl rfl ?_
  refine r_aload_n 80 rfl 0 dX10_image_79 rfl rfl ?_
  refine r_getf (v := .int (m4 37 5)) (k := 5) 83 rfl dX10_image_80 (gf_X10_92_10 rfl) rfl rfl ?_
  rw [show m4 37 5 = m 37 5 from (congrFun e37 5)]
  refine w_putf 86 rfl (k := 27) (va_up (va_up (va_up (va_up m4 37 (upd (m4 37) 24 (m 37 10))) 37 (upd (upd (m4 37) 24 (m 37 10)) 25 (m 37 3))) 37 (upd (upd (upd (m4 37) 24 (m 37 10)) 25 (m 37 3)) 26 (m 37 4))) 37 (upd (upd (upd (upd (m4 37) 24 (m 37 10)) 25 (m 37 3)) 26 (m 37 4)) 27 (m 37 5))) dX10_image_83 (pf_X10_231_10 rfl) (by decide) (by decide) rfl (Nat.le_of_ble_eq_true rfl) rfl ⟨rfl, rfl⟩ rfl ?_
  refine r_aload_n 87 rfl 0 dX10_image_86 rfl rfl ?_
  refine r_aload_n 88 rfl 0 dX10_image_87 rfl rfl ?_
  refine r_getf (v := .int (m4 37 18)) (k := 18) 91 rfl dX10_image_88 (gf_X10_98_10 rfl) rfl rfl ?_
  rw [show m4 37 18 = m 37 18 from (congrFun e37 18)]
  refine w_putf 94 rfl (k := 28) (va_up (va_up (va_up (va_up (va_up m4 37 (upd (m4 37) 24 (m 37 10))) 37 (upd (upd (m4 37) 24 (m 37 10)) 25 (m 37 3))) 37 (upd (upd (upd (m4 37) 24 (m 37 10)) 25 (m 37 3)) 26 (m 37 4))) 37 (upd (upd (upd (upd (m4 37) 24 (m 37 10)) 25 (m 37 3)) 26 (m 37 4)) 27 (m 37 5))) 37 (upd (upd (upd (upd (upd (m4 37) 24 (m 37 10)) 25 (m 37 3)) 26 (m 37 4)) 27 (m 37 5)) 28 (m 37 18))) dX10_image_91 (pf_X10_234_10 rfl) (by decide) (by decide) rfl (Nat.le_of_ble_eq_true rfl) rfl ⟨rfl, rfl⟩ rfl ?_
  refine r_aload_n 95 rfl 0 dX10_image_94 rfl rfl ?_
  refine r_aload_n 96 rfl 0 dX10_image_95 rfl rfl ?_
  refine r_getf (v := .int (m4 37 6)) (k := 6) 99 rfl dX10_image_96 (gf_X10_101_10 rfl) rfl rfl ?_
  rw [show m4 37 6 = m 37 6 from (congrFun e37 6)]
  refine w_putf 102 rfl (k := 23) (va_up (va_up (va_up (va_up (va_up (va_up m4 37 (upd (m4 37) 24 (m 37 10))) 37 (upd (upd (m4 37) 24 (m 37 10)) 25 (m 37 3))) 37 (upd (upd (upd (m4 37) 24 (m 37 10)) 25 (m 37 3)) 26 (m 37 4))) 37 (upd (upd (upd (upd (m4 37) 24 (m 37 10)) 25 (m 37 3)) 26 (m 37 4)) 27 (m 37 5))) 37 (upd (upd (upd (upd (upd (m4 37) 24 (m 37 10)) 25 (m 37 3)) 26 (m 37 4)) 27 (m 37 5)) 28 (m 37 18))) 37 (upd (upd (upd (upd (upd (upd (m4 37) 24 (m 37 10)) 25 (m 37 3)) 26 (m 37 4)) 27 (m 37 5)) 28 (m 37 18)) 23 (m 37 6))) dX10_image_99 (pf_X10_58_10 rfl) (by decide) (by decide) rfl (Nat.le_of_ble_eq_true rfl) rfl ⟨rfl, rfl⟩ rfl ?_
  refine r_aload_n 103 rfl 0 dX10_image_102 rfl rfl ?_
  refine r_getf (v := .int (m4 37 5)) (k := 5) 106 rfl dX10_image_103 (gf_X10_92_10 rfl) rfl rfl ?_
  rw [show m4 37 5 = m 37 5 from (congrFun e37 5)]
  refine r_ireturn rfl dX10_image_106 (Nat.le_of_ble_eq_true rfl) (Nat.le_of_ble_eq_true rfl) ?_
  have hagx : ag [37, 50, 51, 52, 53] m m4 := ag_t (ag_t (ag_t (ag_w hag50 (by decide)) hag51 (by decide)) hag52 (by decide)) hag53 (by decide)
  refine k _ (fun j hj => ?_) (fun j hj => ?_) (fun j hj => ?_) (fun j hj => ?_) ?_ (fun x hx => ?_)
  · show m4 50 j = _; rw [hag53 50 (by decide), hag52 50 (by decide), hag51 50 (by decide)]; exact r50 j hj
  · show m4 51 j = _; rw [hag53 51 (by decide), hag52 51 (by decide), r51 j hj, hag50 40 (by decide)]
  · show m4 52 j = _; rw [hag53 52 (by decide), r52 j hj, hag51 41 (by decide), hag50 41 (by decide)]
  · show m4 53 j = _; rw [r53 j hj, hag52 48 (by decide), hag51 48 (by decide), hag50 48 (by decide)]
  · show upd (upd (upd (upd (upd (upd (m4 37) 24 (m 37 10)) 25 (m 37 3)) 26 (m 37 4)) 27 (m 37 5)) 28 (m 37 18)) 23 (m 37 6) = _; rw [e37]
  · have h7 : x ≠ 37 := fun q => hx (by rw [q]; decide)
    simp only [va_up, if_neg h7]
    exact hagx x hx

set_option maxHeartbeats 4000000 in
set_option maxRecDepth 20000 in
theorem c10_restore_s {Q : am_P} {z : am_Z} {m : Nat → Nat → Int32} {n : Nat} (h0 : ¬ m 37 23 = m 37 6) (k : Q (some (.int (-103))) (wd z m) n) : AW mX10_restore Q 0 (am_ent (am_l mX10_restore) [.ref 37]) [] (wd z m) n 0 0 := by
  show AW _ _ 0 [some (.ref 37)] [] _ _ 0 0
  refine r_aload_n 1 rfl 0 dX10_restore_0 rfl rfl ?_
  refine r_getf (v := .int ((m 37) 23)) (k := 23) 4 rfl dX10_restore_1 (gf_X10_58_10 rfl) rfl rfl ?_
  refine r_aload_n 5 rfl 0 dX10_restore_4 rfl rfl ?_
  refine r_getf (v := .int ((m 37) 6)) (k := 6) 8 rfl dX10_restore_5 (gf_X10_101_10 rfl) rfl rfl ?_
  refine r_icmp_eq 11 14 rfl dX10_restore_8 rfl (fun q__ => absurd q__ h0) (fun _ => ?_)
  refine r_bipush 13 rfl (-103) dX10_restore_11 (by decide) ?_
  refine r_ireturn rfl dX10_restore_13 (Nat.le_of_ble_eq_true rfl) (Nat.le_of_ble_eq_true rfl) ?_
  exact k

set_option maxHeartbeats 4000000 in
set_option maxRecDepth 20000 in
theorem c10_restore_t {Q : am_P} {z : am_Z} {m : Nat → Nat → Int32} {n : Nat} (h0 : m 37 23 = m 37 6) (k : ∀ m', (∀ j, j < 42 → m' 42 j = m 50 j) → (∀ j, j < 8 → m' 40 j = m 51 j) → (∀ j, j < 3 → m' 41 j = m 52 j) → (∀ j, j < 16 → m' 48 j = m 53 j) → m' 37 = upd (upd (upd (upd (upd (m 37) 10 (m 37 24)) 3 (m 37 25)) 4 (m 37 26)) 5 (m 37 27)) 18 (m 37 28) → ag [37, 40, 41, 42, 48] m m' → Q (some (.int (m 37 27))) (wd z m') n) : AW mX10_restore Q 0 (am_ent (am_l mX10_restore) [.ref 37]) [] (wd z m) n 0 0 := by
  show AW _ _ 0 [some (.ref 37)] [] _ _ 0 0
  refine r_aload_n 1 rfl 0 dX10_restore_0 rfl rfl ?_
  refine r_getf (v := .int ((m 37) 23)) (k := 23) 4 rfl dX10_restore_1 (gf_X10_58_10 rfl) rfl rfl ?_
  refine r_aload_n 5 rfl 0 dX10_restore_4 rfl rfl ?_
  refine r_getf (v := .int ((m 37) 6)) (k := 6) 8 rfl dX10_restore_5 (gf_X10_101_10 rfl) rfl rfl ?_
  refine r_icmp_eq 11 14 rfl dX10_restore_8 rfl (fun _ => ?_) (fun q__ => absurd h0 q__)
  refine r_aload_n 15 rfl 0 dX10_restore_14 rfl rfl ?_
  refine r_getf (v := .ref 50) (k := 29) 18 rfl dX10_restore_15 (gf_X10_46_10 rfl) rfl rfl ?_
  refine r_aload_n 19 rfl 0 dX10_restore_18 rfl rfl ?_
  refine r_getf (v := .ref 42) (k := 11) 22 rfl dX10_restore_19 (gf_X10_22_10 rfl) rfl rfl ?_
  refine q_S 25 0 0 rfl [.ref 50, .ref 42] rfl dX10_restore_22 cl_X10_restore__X10_copy (lk_X10_186 rfl) st_X10_copy (Nat.le_of_ble_eq_true rfl) (fun _ _ => Nat.le_of_ble_eq_true rfl) rfl rfl (Nat.le_of_ble_eq_true rfl) (Nat.le_of_ble_eq_true rfl) ?_
  refine c_cp_50_42 (m := m) (fun m1 r42 hag42 => (k_v ?_))
  refine r_aload_n 26 rfl 0 dX10_restore_25 rfl rfl ?_
  refine r_getf (v := .ref 51) (k := 30) 29 rfl dX10_restore_26 (gf_X10_49_10 rfl) rfl rfl ?_
  refine r_aload_n 30 rfl 0 dX10_restore_29 rfl rfl ?_
  refine r_getf (v := .ref 40) (k := 8) 33 rfl dX10_restore_30 (gf_X10_16_10 rfl) rfl rfl ?_
  refine q_S 36 0 0 rfl [.ref 51, .ref 40] rfl dX10_restore_33 cl_X10_restore__X10_copy (lk_X10_186 rfl) st_X10_copy (Nat.le_of_ble_eq_true rfl) (fun _ _ => Nat.le_of_ble_eq_true rfl) rfl rfl (Nat.le_of_ble_eq_true rfl) (Nat.le_of_ble_eq_true rfl) ?_
  refine c_cp_51_40 (m := m1) (fun m2 r40 hag40 => (k_v ?_))
  refine r_aload_n 37 rfl 0 dX10_restore_36 rfl rfl ?_
  refine r_getf (v := .ref 52) (k := 31) 40 rfl dX10_restore_37 (gf_X10_52_10 rfl) rfl rfl ?_
  refine r_aload_n 41 rfl 0 dX10_restore_40 rfl rfl ?_
  refine r_getf (v := .ref 41) (k := 9) 44 rfl dX10_restore_41 (gf_X10_19_10 rfl) rfl rfl ?_
  refine q_S 47 0 0 rfl [.ref 52, .ref 41] rfl dX10_restore_44 cl_X10_restore__X10_copy (lk_X10_186 rfl) st_X10_copy (Nat.le_of_ble_eq_true rfl) (fun _ _ => Nat.le_of_ble_eq_true rfl) rfl rfl (Nat.le_of_ble_eq_true rfl) (Nat.le_of_ble_eq_true rfl) ?_
  refine c_cp_52_41 (m := m2) (fun m3 r41 hag41 => (k_v ?_))
  refine r_aload_n 48 rfl 0 dX10_restore_47 rfl rfl ?_
  refine r_getf (v := .ref 53) (k := 32) 51 rfl dX10_restore_48 (gf_X10_55_10 rfl) rfl rfl ?_
  refine r_aload_n 52 rfl 0 dX10_restore_51 rfl rfl ?_
  refine r_getf (v := .ref 48) (k := 20) 55 rfl dX10_restore_52 (gf_X10_40_10 rfl) rfl rfl ?_
  refine q_S 58 0 0 rfl [.ref 53, .ref 48] rfl dX10_restore_55 cl_X10_restore__X10_copy (lk_X10_186 rfl) st_X10_copy (Nat.le_of_ble_eq_true rfl) (fun _ _ => Nat.le_of_ble_eq_true rfl) rfl rfl (Nat.le_of_ble_eq_true rfl) (Nat.le_of_ble_eq_true rfl) ?_
  refine c_cp_53_48 (m := m3) (fun m4 r48 hag48 => (k_v ?_))
  have e37 : m4 37 = m 37 := by rw [hag48 37 (by decide), hag41 37 (by decide), hag40 37 (by decide), hag42 37 (by decide)]
  refine r_aload_n 59 rfl 0 dX10_restore_58 rfl rfl ?_
  refine r_aload_n 60 rfl 0 dX10_restore_59 rfl rfl ?_
  refine r_getf (v := .int ((m4 37) 24)) (k := 24) 63 rfl dX10_restore_60 (gf_X10_222_10 rfl) rfl rfl ?_
  rw [show (m4 37) 24 = m 37 24 from (congrFun e37 24)]
  refine w_putf 66 rfl (k := 10) (va_up m4 37 (upd (m4 37) 10 (m 37 24))) dX10_restore_63 (pf_X10_95_10 rfl) (by decide) (by decide) rfl (Nat.le_of_ble_eq_true rfl) rfl ⟨rfl, rfl⟩ rfl ?_
  refine r_aload_n 67 rfl 0 dX10_restore_66 rfl rfl ?_
  refine r_aload_n 68 rfl 0 dX10_restore_67 rfl rfl ?_
  refine r_getf (v := .int (m4 37 25)) (k := 25) 71 rfl dX10_restore_68 (gf_X10_225_10 rfl) rfl rfl ?_
  rw [show m4 37 25 = m 37 25 from (congrFun e37 25)]
  refine w_putf 74 rfl (k := 3) (va_up (va_up m4 37 (upd (m4 37) 10 (m 37 24))) 37 (upd (upd (m4 37) 10 (m 37 24)) 3 (m 37 25))) dX10_restore_71 (pf_X10_86_10 rfl) (by decide) (by decide) rfl (Nat.le_of_ble_eq_true rfl) rfl ⟨rfl, rfl⟩ rfl ?_
  refine r_aload_n 75 rfl 0 dX10_restore_74 rfl rfl ?_
  refine r_aload_n 76 rfl 0 dX10_restore_75 rfl rfl ?_
  refine r_getf (v := .int (m4 37 26)) (k := 26) 79 rfl dX10_restore_76 (gf_X10_228_10 rfl) rfl rfl ?_
  rw [show m4 37 26 = m 37 26 from (congrFun e37 26)]
  refine w_putf 82 rfl (k := 4) (va_up (va_up (va_up m4 37 (upd (m4 37) 10 (m 37 24))) 37 (upd (upd (m4 37) 10 (m 37 24)) 3 (m 37 25))) 37 (upd (upd (upd (m4 37) 10 (m 37 24)) 3 (m 37 25)) 4 (m 37 26))) dX10_restore_79 (pf_X10_89_10 rfl) (by decide) (by decide) rfl (Nat.le_of_ble_eq_true rfl) rfl ⟨rfl, rfl⟩ rfl ?_
  refine r_aload_n 83 rfl 0 dX10_restore_82 rfl rfl ?_
  refine r_aload_n 84 rfl 0 dX10_restore_83 rfl rfl ?_
  refine r_getf (v := .int (m4 37 27)) (k := 27) 87 rfl dX10_restore_84 (gf_X10_231_10 rfl) rfl rfl ?_
  rw [show m4 37 27 = m 37 27 from (congrFun e37 27)]
  refine w_putf 90 rfl (k := 5) (va_up (va_up (va_up (va_up m4 37 (upd (m4 37) 10 (m 37 24))) 37 (upd (upd (m4 37) 10 (m 37 24)) 3 (m 37 25))) 37 (upd (upd (upd (m4 37) 10 (m 37 24)) 3 (m 37 25)) 4 (m 37 26))) 37 (upd (upd (upd (upd (m4 37) 10 (m 37 24)) 3 (m 37 25)) 4 (m 37 26)) 5 (m 37 27))) dX10_restore_87 (pf_X10_92_10 rfl) (by decide) (by decide) rfl (Nat.le_of_ble_eq_true rfl) rfl ⟨rfl, rfl⟩ rfl ?_
  refine r_aload_n 91 rfl 0 dX10_restore_90 rfl rfl ?_
  refine r_aload_n 92 rfl 0 dX10_restore_91 rfl rfl ?_
  refine r_getf (v := .int (m4 37 28)) (k := 28) 95 rfl dX10_restore_92 (gf_X10_234_10 rfl) rfl rfl ?_
  rw [show m4 37 28 = m 37 28 from (congrFun e37 28)]
  refine w_putf 98 rfl (k := 18) (va_up (va_up (va_up (va_up (va_up m4 37 (upd (m4 37) 10 (m 37 24))) 37 (upd (upd (m4 37) 10 (m 37 24)) 3 (m 37 25))) 37 (upd (upd (upd (m4 37) 10 (m 37 24)) 3 (m 37 25)) 4 (m 37 26))) 37 (upd (upd (upd (upd (m4 37) 10 (m 37 24)) 3 (m 37 25)) 4 (m 37 26)) 5 (m 37 27))) 37 (upd (upd (upd (upd (upd (m4 37) 10 (m 37 24)) 3 (m 37 25)) 4 (m 37 26)) 5 (m 37 27)) 18 (m 37 28))) dX10_restore_95 (pf_X10_98_10 rfl) (by decide) (by decide) rfl (Nat.le_of_ble_eq_true rfl) rfl ⟨rfl, rfl⟩ rfl ?_
  refine r_aload_n 99 rfl 0 dX10_restore_98 rfl rfl ?_
  refine r_getf (v := .int (m 37 27)) (k := 5) 102 rfl dX10_restore_99 (gf_X10_92_10 rfl) rfl rfl ?_
  refine r_ireturn rfl dX10_restore_102 (Nat.le_of_ble_eq_true rfl) (Nat.le_of_ble_eq_true rfl) ?_
  have hagx : ag [37, 40, 41, 42, 48] m m4 := ag_t (ag_t (ag_t (ag_w hag42 (by decide)) hag40 (by decide)) hag41 (by decide)) hag48 (by decide)
  refine k _ (fun j hj => ?_) (fun j hj => ?_) (fun j hj => ?_) (fun j hj => ?_) ?_ (fun x hx => ?_)
  · show m4 42 j = _; rw [hag48 42 (by decide), hag41 42 (by decide), hag40 42 (by decide)]; exact r42 j hj
  · show m4 40 j = _; rw [hag48 40 (by decide), hag41 40 (by decide), r40 j hj, hag42 51 (by decide)]
  · show m4 41 j = _; rw [hag48 41 (by decide), r41 j hj, hag40 52 (by decide), hag42 52 (by decide)]
  · show m4 48 j = _; rw [r48 j hj, hag41 53 (by decide), hag40 53 (by decide), hag42 53 (by decide)]
  · show upd (upd (upd (upd (upd (m4 37) 10 (m 37 24)) 3 (m 37 25)) 4 (m 37 26)) 5 (m 37 27)) 18 (m 37 28) = _; rw [e37]
  · have h7 : x ≠ 37 := fun q => hx (by rw [q]; decide)
    simp only [va_up, if_neg h7]
    exact hagx x hx

set_option maxHeartbeats 4000000 in
set_option maxRecDepth 20000 in
theorem P_image {i : Nat} {z : am_Z} {m : Nat → Nat → Int32} {n : Nat} {D K : Nat → Nat → Nat} (hI : IV i z m n D K) (hi : i + 5 ≤ 2560)  : AW mX9_image (PR (i + 5) mX10_image [.ref 37]) 0 (am_ent (am_l mX9_image) [.ref 1]) [] (wd z m) n 0 0 := by
  obtain ⟨h9, h10, hnz, hpg, hop, hnw, hct, him⟩ := id hI
  obtain ⟨hg, hfd, hf3, hf0, hns, hn6, hsd, hsb, hwi, hw4, hfr, hr1, hhr, hh⟩ := id h9
  obtain ⟨gg, gfd, gf3, gf0, gns, gn7, gmr, gwi, gw4, gfr, gr1, ghr, gh⟩ := id h10
  by_cases hf : D 7 0 = 0
  · exact c9_image_s (by rw [hfd, hf]) (PR_i (fun Q2 k => c10_image_s (by rw [gfd, hf]) (k _ _ _ _ _ (IV_mono hI (by omega) hi))))
  · obtain ⟨⟨p1, p2, p3, p4⟩, w1, w2, w3⟩ := id hnw
    obtain ⟨d1, d2, d3, d4, d5, d6⟩ := id hct
    refine c9_image_t w3 hfr hr1 hfd (by omega) hf3 (fun m1 g0 g1 g2 g3 g4 g5 g6 g7 hag => PR_i (fun Q2 k => ?_))
    refine c10_image_t (fd := D 7 0) (by rw [hag 37 (by decide)]; exact gfd) (by omega) gf3 (fun m2 r50 r51 r52 r53 r37 hag2 => ?_)
    have e37 : m1 37 = m 37 := hag 37 (by decide)
    rw [e37] at r37 ⊢
    rw [show m 37 5 = m 7 5 from ghr.trans hhr.symm]
    obtain ⟨f0, f3, f4, f5, f8⟩ := g0
    have e (x : Nat) (hx : x ∉ [37, 50, 51, 52, 53]) : m2 x = m1 x := hag2 x hx
    have a1 (x : Nat) (hx : x ∉ [1, 14, 15, 16, 17, 18, 19, 20]) : m1 x = m x := hag x hx
    refine k _ _ _ D D (IV_mono (IV_kp hI (K' := D) (m' := m2) (fun x hx => ?_) (fun j hj => ?_) (fun j hj => ?_) (Or.inr ⟨?_, ?_, ?_⟩)) (by omega) hi)
    · rw [hag2 x (fun q => hx (by simp only [List.mem_cons, List.not_mem_nil, or_false] at q ⊢; omega))]; exact hag x (fun q => hx (by simp only [List.mem_cons, List.not_mem_nil, or_false] at q ⊢; omega))
    · rw [e 1 (by decide), g7]; unfold upd; rw [if_neg hj]
    · rw [r37]; unfold upd; simp only [if_neg (show ¬ j = 23 by omega), if_neg (show ¬ j = 24 by omega), if_neg (show ¬ j = 25 by omega), if_neg (show ¬ j = 26 by omega), if_neg (show ¬ j = 27 by omega), if_neg (show ¬ j = 28 by omega)]
    · rw [e 1 (by decide), g7]; rfl
    · rw [r37]; exact d1.2.1
    · refine ⟨⟨Nat.le_refl _, fun s _ => ⟨rfl, rfl, rfl, rfl⟩⟩, ?_, fun s hs => ?_, fun j hj => ?_, ⟨?_, hw4⟩, ⟨?_, hr1⟩, ⟨?_, d4, d5⟩, ?_, ⟨fun j hj => ?_, fun j hj => ?_, p3, fun j hj => ?_⟩, fun s hs => ?_, ?_, ?_, ?_, ?_, ?_⟩
      · rw [e 14 (by decide), f0]; exact hns
      · show m2 15 s = _ ∧ _ ∧ m2 16 s = _ ∧ _; rw [e 15 (by decide), e 16 (by decide), g1 s (by omega), g2 s (by omega)]; exact hsb s hs
      · show m2 15 j = _ ∨ m2 15 j = _; rw [e 15 (by decide), g1 j hj]; exact w3 j hj
      · rw [e 14 (by decide), f3]; exact hwi
      · rw [e 14 (by decide), f4]; exact hfr
      · rw [e 14 (by decide), f5]; exact hhr
      · rw [e 14 (by decide), f8]; exact w1
      · show m2 17 j = m2 51 j; rw [e 17 (by decide), g3 j hj, r51 j hj, a1 40 (by decide)]; exact p1 j hj
      · show m2 18 j = m2 52 j; rw [e 18 (by decide), g4 j hj, r52 j hj, a1 41 (by decide)]; exact p2 j hj
      · show m2 19 j = m2 53 (2 * j) ∧ m2 20 j = m2 53 (2 * j + 1) ∧ ∃ q, q < 8 ∧ m2 19 j = nI q; rw [e 19 (by decide), e 20 (by decide), g5 j (by omega), g6 j (by omega), r53 (2 * j) (by omega), r53 (2 * j + 1) (by omega), a1 48 (by decide)]; exact p4 j hj
      · show (m2 50 (6 * s) = _ ∧ m2 50 (6 * s + 1) = _ ∧ m2 50 (6 * s + 2) = _ ∧ m2 50 (6 * s + 3) = _ ∧ m2 50 (6 * s + 4) = _ ∧ m2 50 (6 * s + 5) = _) ∧ _; rw [r50 (6 * s) (by omega), r50 (6 * s + 1) (by omega), r50 (6 * s + 2) (by omega), r50 (6 * s + 3) (by omega), r50 (6 * s + 4) (by omega), r50 (6 * s + 5) (by omega), a1 42 (by decide)]; exact gmr s hs
      · rw [r37]; exact gns
      · rw [r37]; exact gwi
      · rw [r37]; exact gfr
      · rw [r37]; exact ghr
      · rw [r37]; exact w2

set_option maxHeartbeats 4000000 in
set_option maxRecDepth 20000 in
theorem P_restore {i : Nat} {z : am_Z} {m : Nat → Nat → Int32} {n : Nat} {D K : Nat → Nat → Nat} (hI : IV i z m n D K) (hi : i + 5 ≤ 2560)  : AW mX9_restore (PR (i + 5) mX10_restore [.ref 37]) 0 (am_ent (am_l mX9_restore) [.ref 1]) [] (wd z m) n 0 0 := by
  obtain ⟨h9, h10, hnz, hpg, hop, hnw, hct, him⟩ := id hI
  obtain ⟨hg, hfd, hf3, hf0, hns, hn6, hsd, hsb, hwi, hw4, hfr, hr1, hhr, hh⟩ := id h9
  obtain ⟨gg, gfd, gf3, gf0, gns, gn7, gmr, gwi, gw4, gfr, gr1, ghr, gh⟩ := id h10
  obtain ⟨d1, d2, d3, d4, d5, d6⟩ := id hct
  rcases him with ⟨i1, i2⟩ | ⟨i1, i2, i3⟩
  · refine c9_restore_s i1 (PR_i (fun Q2 k => c10_restore_s (fun q => ?_) (k _ _ _ _ _ (IV_mono hI (by omega) hi))))
    rw [d1.2.1] at q
    rcases i2 with h | ⟨v, h1, h2⟩
    · exact nI_m1 (t := D 8 2) (by omega) (q.symm.trans h)
    · have := (nI_eq (a := v) (b := D 8 2) (by omega) (by omega)).mp (h2.symm.trans q); omega
  · obtain ⟨⟨k1, k2⟩, k3, k4, k5, ⟨k6, k7⟩, ⟨k8, k9⟩, ⟨k10, k11, k12⟩, k13, ⟨q1, q2, q3, q4⟩, k14, k15, k16, k17, k18, k19⟩ := id i3
    refine c9_restore_t i1 k5 k8 k9 (fun m1 g0 g1 g2 g3 g4 g5 g6 hag => PR_i (fun Q2 k => ?_))
    have e37 : m1 37 = m 37 := hag 37 (by decide)
    refine c10_restore_t (by rw [e37, i2, d1.2.1]) (fun m2 r42 r40 r41 r48 r37 hag2 => ?_)
    rw [e37] at r37 ⊢
    rw [show m 37 27 = m 14 5 from k18.trans k10.symm]
    obtain ⟨f0, f3, f4, f5, f8⟩ := g0
    have e (x : Nat) (hx : x ∉ [37, 40, 41, 42, 48]) : m2 x = m1 x := hag2 x hx
    have a1 (x : Nat) (hx : x ∉ [7, 8, 9, 10, 11, 12, 13]) : m1 x = m x := hag x hx
    have ee (x : Nat) (hx : x ∉ [7, 8, 9, 10, 11, 12, 13, 37, 40, 41, 42, 48]) : m2 x = m x := by
      rw [e x (fun q => hx (by simp only [List.mem_cons, List.not_mem_nil, or_false] at q ⊢; omega))]; exact a1 x (fun q => hx (by simp only [List.mem_cons, List.not_mem_nil, or_false] at q ⊢; omega))
    have ej : ∀ j, j ≠ 3 → j ≠ 4 → j ≠ 5 → j ≠ 10 → j ≠ 18 → m2 37 j = m 37 j := fun j h3 h4 h5 h10 h18 => by rw [r37]; unfold upd; simp only [if_neg h3, if_neg h4, if_neg h5, if_neg h10, if_neg h18]
    refine k _ _ _ (RS D K) K (IV_mono (i := i) ⟨⟨fun j hj => ?_, ?_, hf3, fun h => hf0 (Nat.lt_of_lt_of_le h k1), ?_, (show K 7 1 ≤ 6 by omega), fun s hs => hsd s (Nat.lt_of_lt_of_le hs k1), fun s hs => ?_, ?_, k7, ?_, k9, ?_, (show K 7 3 < 2 ^ 30 by omega)⟩, ⟨fun j hj => ?_, ?_, gf3, fun h => gf0 (Nat.lt_of_lt_of_le h k1), ?_, (show K 7 1 ≤ 7 by omega), fun s hs => ?_, ?_, k7, ?_, k9, ?_, (show K 7 3 < 2 ^ 30 by omega)⟩, hnz, ?_, ?_, ⟨⟨fun j hj => ?_, fun j hj => ?_, q3, fun j hj => ?_⟩, ?_, ?_, fun j hj => ?_⟩, ⟨?_, ?_, ?_, k11, k12, d6⟩, Or.inr ⟨?_, ?_, ?_⟩⟩ (by omega) hi)
    · rw [ee 5 (by decide)]; exact hg j hj
    · rw [ee 4 (by decide)]; exact hfd
    · rw [e 7 (by decide), f0]; exact k3
    · show m2 8 s = _ ∧ _ ∧ m2 9 s = _ ∧ _; have hs : s < K 7 1 := hs; rw [e 8 (by decide), e 9 (by decide), g1 s (by omega), g2 s (by omega)]; exact k4 s hs
    · rw [e 7 (by decide), f3]; exact k6
    · rw [e 7 (by decide), f4]; exact k8
    · rw [e 7 (by decide), f5]; exact k10
    · rw [ee 39 (by decide)]; exact gg j hj
    · rw [ej 2 (by decide) (by decide) (by decide) (by decide) (by decide)]; exact gfd
    · rw [r37]; exact k15
    · have hs : s < K 7 1 := hs; obtain ⟨v1, v2, v3, v4⟩ := k2 s hs; have hk := k14 s hs; rw [v1, v2, v3, v4] at hk
      show (m2 42 (6 * s) = _ ∧ m2 42 (6 * s + 1) = _ ∧ m2 42 (6 * s + 2) = _ ∧ m2 42 (6 * s + 3) = _ ∧ m2 42 (6 * s + 4) = _ ∧ m2 42 (6 * s + 5) = _) ∧ _
      rw [r42 (6 * s) (by omega), r42 (6 * s + 1) (by omega), r42 (6 * s + 2) (by omega), r42 (6 * s + 3) (by omega), r42 (6 * s + 4) (by omega), r42 (6 * s + 5) (by omega), a1 50 (by decide)]; exact hk
    · rw [r37]; exact k16
    · rw [r37]; exact k17
    · rw [r37]; exact k18
    · unfold PG at *; rw [ee 2 (by decide), ee 3 (by decide), ee 38 (by decide), ej 1 (by decide) (by decide) (by decide) (by decide) (by decide)]; exact hpg
    · unfold OP at *; rw [ee 4 (by decide)]; exact hop
    · show m2 10 j = m2 40 j; rw [e 10 (by decide), g3 j hj, r40 j hj, a1 51 (by decide)]; exact q1 j hj
    · show m2 11 j = m2 41 j; rw [e 11 (by decide), g4 j hj, r41 j hj, a1 52 (by decide)]; exact q2 j hj
    · have hj : j < K 8 1 := hj; show m2 12 j = m2 48 (2 * j) ∧ m2 13 j = m2 48 (2 * j + 1) ∧ ∃ q, q < 8 ∧ m2 12 j = nI q; rw [e 12 (by decide), e 13 (by decide), g5 j (by omega), g6 j (by omega), r48 (2 * j) (by omega), r48 (2 * j + 1) (by omega), a1 53 (by decide)]; exact q4 j hj
    · rw [e 7 (by decide), f8]; exact k13
    · rw [r37]; exact k19
    · show m2 8 j = _ ∨ m2 8 j = _; rw [e 8 (by decide), g1 j hj]; exact k5 j hj
    · rw [ee 1 (by decide), ej 6 (by decide) (by decide) (by decide) (by decide) (by decide)]; exact d1
    · rw [ee 1 (by decide), ej 15 (by decide) (by decide) (by decide) (by decide) (by decide)]; exact d2
    · rw [ee 1 (by decide), ej 19 (by decide) (by decide) (by decide) (by decide) (by decide)]; exact d3
    · rw [ee 1 (by decide)]; exact i1
    · rw [ej 23 (by decide) (by decide) (by decide) (by decide) (by decide)]; exact i2
    · have hkp : KP i m D K := i3
      have hkp2 : KP i m2 D K := by
        unfold KP PT BL SB at *; simp only [Nat.reduceAdd] at *
        rw [ee 14 (by decide), ee 15 (by decide), ee 16 (by decide), ee 17 (by decide), ee 18 (by decide), ee 19 (by decide), ee 20 (by decide), ee 50 (by decide), ee 51 (by decide), ee 52 (by decide), ee 53 (by decide), ej 24 (by decide) (by decide) (by decide) (by decide) (by decide), ej 25 (by decide) (by decide) (by decide) (by decide) (by decide), ej 26 (by decide) (by decide) (by decide) (by decide) (by decide), ej 27 (by decide) (by decide) (by decide) (by decide) (by decide), ej 28 (by decide) (by decide) (by decide) (by decide) (by decide)]; exact hkp
      exact ⟨⟨Nat.le_refl _, k2⟩, hkp2.2⟩
