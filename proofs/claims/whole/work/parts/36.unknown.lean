set_option maxHeartbeats 4000000 in
set_option maxRecDepth 20000 in
theorem c_mayAsk_t {Q : am_P} {z : am_Z} {m : Nat → Nat → Int32} {n : Nat} {a : Nat} (has : m 1 14 = nI a) (ha : a < 30) {fd : Nat} (hfd : m 4 2 = nI fd) (hf1 : 1 ≤ fd) (hf3 : fd ≤ 3) (k : Q (some (.int 1)) (wd z m) n) : AW mX9_mayAsk Q 0 (am_ent (am_l mX9_mayAsk) [.ref 1]) [] (wd z m) n 0 0 := by
  show AW _ _ 0 [some (.ref 1)] [] _ _ 0 0
  refine r_aload_n 1 rfl 0 dX9_mayAsk_0 rfl rfl ?_
  refine r_getf (v := .ref 4) (k := 1) 4 rfl dX9_mayAsk_1 (gf_X9_19_9 rfl) rfl rfl ?_
  refine q_V 7 0 0 rfl [] rfl dX9_mayAsk_4 cl_X9_mayAsk__X7_isThere (lk_X9_171 rfl) im_X7_isThere (ci := 7) rfl sl_X7__X7_isThere rfl (Nat.le_of_ble_eq_true rfl) (fun _ _ => Nat.le_of_ble_eq_true rfl) rfl rfl (Nat.le_of_ble_eq_true rfl) (Nat.le_of_ble_eq_true rfl) ?_
  refine c_isThere_t hfd hf1 hf3 (k_i ?_)
  refine r_if_eq 10 23 rfl dX9_mayAsk_7 rfl (fun q__ => absurd q__ (by decide)) (fun _ => ?_)
  refine r_aload_n 11 rfl 0 dX9_mayAsk_10 rfl rfl ?_
  refine r_getf (v := .int ((m 1) 14)) (k := 14) 14 rfl dX9_mayAsk_11 (gf_X9_229_9 rfl) rfl rfl ?_
  rw [show (m 1) 14 = nI a from has]
  refine r_bipush 16 rfl 30 dX9_mayAsk_14 (by decide) ?_
  refine r_icmp_ge 19 23 rfl dX9_mayAsk_16 rfl (fun q__ => absurd q__ (fun q__ => absurd ((nI_leI (a := 30) (b := a) (by omega) (by omega)).mp q__) (by omega))) (fun _ => ?_)
  refine r_iconst 20 rfl 1 dX9_mayAsk_19 rfl ?_
  refine r_goto 24 dX9_mayAsk_20 rfl ?_
  refine r_zreturn rfl rfl dX9_mayAsk_24 (Nat.le_of_ble_eq_true rfl) (Nat.le_of_ble_eq_true rfl) ?_
  exact k

set_option maxHeartbeats 4000000 in
set_option maxRecDepth 20000 in
theorem c_mayAsk_f1 {Q : am_P} {z : am_Z} {m : Nat → Nat → Int32} {n : Nat} {a : Nat} (has : m 1 14 = nI a) (ha : a = 30) {fd : Nat} (hfd : m 4 2 = nI fd) (hf1 : 1 ≤ fd) (hf3 : fd ≤ 3) (k : Q (some (.int 0)) (wd z m) n) : AW mX9_mayAsk Q 0 (am_ent (am_l mX9_mayAsk) [.ref 1]) [] (wd z m) n 0 0 := by
  show AW _ _ 0 [some (.ref 1)] [] _ _ 0 0
  refine r_aload_n 1 rfl 0 dX9_mayAsk_0 rfl rfl ?_
  refine r_getf (v := .ref 4) (k := 1) 4 rfl dX9_mayAsk_1 (gf_X9_19_9 rfl) rfl rfl ?_
  refine q_V 7 0 0 rfl [] rfl dX9_mayAsk_4 cl_X9_mayAsk__X7_isThere (lk_X9_171 rfl) im_X7_isThere (ci := 7) rfl sl_X7__X7_isThere rfl (Nat.le_of_ble_eq_true rfl) (fun _ _ => Nat.le_of_ble_eq_true rfl) rfl rfl (Nat.le_of_ble_eq_true rfl) (Nat.le_of_ble_eq_true rfl) ?_
  refine c_isThere_t hfd hf1 hf3 (k_i ?_)
  refine r_if_eq 10 23 rfl dX9_mayAsk_7 rfl (fun q__ => absurd q__ (by decide)) (fun _ => ?_)
  refine r_aload_n 11 rfl 0 dX9_mayAsk_10 rfl rfl ?_
  refine r_getf (v := .int ((m 1) 14)) (k := 14) 14 rfl dX9_mayAsk_11 (gf_X9_229_9 rfl) rfl rfl ?_
  rw [show (m 1) 14 = nI a from has]
  refine r_bipush 16 rfl 30 dX9_mayAsk_14 (by decide) ?_
  refine r_icmp_ge 19 23 rfl dX9_mayAsk_16 rfl (fun _ => ?_) (fun q__ => absurd ((nI_leI (a := 30) (b := a) (by omega) (by omega)).mpr (by omega)) q__)
  refine r_iconst 24 rfl 0 dX9_mayAsk_23 rfl ?_
  refine r_zreturn rfl rfl dX9_mayAsk_24 (Nat.le_of_ble_eq_true rfl) (Nat.le_of_ble_eq_true rfl) ?_
  exact k

set_option maxHeartbeats 4000000 in
set_option maxRecDepth 20000 in
theorem c_mayAsk_f0 {Q : am_P} {z : am_Z} {m : Nat → Nat → Int32} {n : Nat} (hfd : m 4 2 = nI 0) (k : Q (some (.int 0)) (wd z m) n) : AW mX9_mayAsk Q 0 (am_ent (am_l mX9_mayAsk) [.ref 1]) [] (wd z m) n 0 0 := by
  show AW _ _ 0 [some (.ref 1)] [] _ _ 0 0
  refine r_aload_n 1 rfl 0 dX9_mayAsk_0 rfl rfl ?_
  refine r_getf (v := .ref 4) (k := 1) 4 rfl dX9_mayAsk_1 (gf_X9_19_9 rfl) rfl rfl ?_
  refine q_V 7 0 0 rfl [] rfl dX9_mayAsk_4 cl_X9_mayAsk__X7_isThere (lk_X9_171 rfl) im_X7_isThere (ci := 7) rfl sl_X7__X7_isThere rfl (Nat.le_of_ble_eq_true rfl) (fun _ _ => Nat.le_of_ble_eq_true rfl) rfl rfl (Nat.le_of_ble_eq_true rfl) (Nat.le_of_ble_eq_true rfl) ?_
  refine c_isThere_f hfd (k_i ?_)
  refine r_if_eq 10 23 rfl dX9_mayAsk_7 rfl (fun _ => ?_) (fun q__ => absurd (by decide) q__)
  refine r_iconst 24 rfl 0 dX9_mayAsk_23 rfl ?_
  refine r_zreturn rfl rfl dX9_mayAsk_24 (Nat.le_of_ble_eq_true rfl) (Nat.le_of_ble_eq_true rfl) ?_
  exact k

set_option maxHeartbeats 4000000 in
set_option maxRecDepth 20000 in
theorem lp_unk9 {Q : am_P} {z : am_Z} {m : Nat → Nat → Int32} {n : Nat} {D : Nat → Nat → Nat} (hC : C9 z m D) (hA : AIR m D) (hf1 : 1 ≤ D 7 0) {nc : Nat → Nat} {np : Nat → Int32} {nn : Nat} (hnn : m 7 8 = nI nn) (hn8 : nn ≤ 8) (hnc : ∀ j, j < nn → m 12 j = nI (nc j) ∧ nc j < 8) (hnp : ∀ j, j < nn → m 13 j = np j) {w : Nat} (hw : w ≤ 1) (kq : ∀ m', ag [33] m m' → Q (some (.int (if w = 0 then nI (cn (fit D nc np nn) 216) else fl (fit D nc np nn) 216 0))) (wd z m') n) : ∀ (d k : Nat), k + d = 216 → ∀ l : Int32, ((l = -1 ∧ fl (fit D nc np nn) d k = fl (fit D nc np nn) 216 0) ∨ (¬ l = -1 ∧ l = fl (fit D nc np nn) 216 0)) → ∀ m', ag [33] m m' → AW mX9_unknown Q 41 [some (.ref 1), some (.int (nI w)), some (.int (nI (cn (fit D nc np nn) k))), some (.int l), some (.int (nI k))] [] (wd z m') n 0 0 := by
  intro d
  induction d with
  | zero =>
    intro k hk l hl m' hag
    obtain rfl : k = 216 := by omega
    have hl2 : l = fl (fit D nc np nn) 216 0 := by
      rcases hl with ⟨h1, h2⟩ | ⟨_, h2⟩
      · exact h1.trans h2
      · exact h2
    have kq := kq m' hag
    refine r_iload 43 rfl dX9_unknown_41 rfl ?_
    refine r_sipush 46 rfl 216 dX9_unknown_43 (by decide) ?_
    refine r_icmp_ge 49 75 rfl dX9_unknown_46 rfl (fun _ => ?_) (fun q__ => absurd ((nI_leI (a := 216) (b := 216) (by omega) (by omega)).mpr (by omega)) q__)
    refine r_iload_n 76 rfl 1 dX9_unknown_75 rfl rfl ?_
    refine r_if_ne 79 83 rfl dX9_unknown_76 rfl (fun c76 => ?_) (fun c76 => ?_)
    · replace c76 : ¬ w = 0 := fun q__ => c76 ((nI_eq (a := w) (b := 0) (by omega) (by omega)).mpr q__)
      refine r_iload_n 84 rfl 3 dX9_unknown_83 rfl rfl ?_
      refine r_ireturn rfl dX9_unknown_84 (Nat.le_of_ble_eq_true rfl) (Nat.le_of_ble_eq_true rfl) ?_
      rw [if_neg (by omega)] at kq
      rw [hl2]
      exact kq
    · replace c76 : w = 0 := (nI_eq (a := w) (b := 0) (by omega) (by omega)).mp c76
      refine r_iload_n 80 rfl 2 dX9_unknown_79 rfl rfl ?_
      refine r_goto 84 dX9_unknown_80 rfl ?_
      refine r_ireturn rfl dX9_unknown_84 (Nat.le_of_ble_eq_true rfl) (Nat.le_of_ble_eq_true rfl) ?_
      rw [if_pos (by omega)] at kq
      exact kq
  | succ d ih =>
    intro k hk l hl m' hag
    have hcn := cn_le (fit D nc np nn) k
    have hC' := C9_ag hC hag (by decide)
    have hA' := AIR_ag hA hag (by decide)
    have e1 : cn (fit D nc np nn) (k + 1) = cn (fit D nc np nn) k + (if (fit D nc np nn) k = true then 1 else 0) := rfl
    have e2 : fl (fit D nc np nn) (d + 1) k = if (fit D nc np nn) k = true then nI k else fl (fit D nc np nn) d (k + 1) := rfl
    by_cases hP : (fit D nc np nn) k = true
    · refine r_iload 43 rfl dX9_unknown_41 rfl ?_
      refine r_sipush 46 rfl 216 dX9_unknown_43 (by decide) ?_
      refine r_icmp_ge 49 75 rfl dX9_unknown_46 rfl (fun q__ => absurd q__ (fun q__ => absurd ((nI_leI (a := 216) (b := k) (by omega) (by omega)).mp q__) (by omega))) (fun _ => ?_)
      refine r_aload_n 50 rfl 0 dX9_unknown_49 rfl rfl ?_
      refine r_iload 52 rfl dX9_unknown_50 rfl ?_
      refine q_V 55 0 0 rfl [.int (nI k)] rfl dX9_unknown_52 cl_X9_unknown__X9_fitsNoses (lk_X9_232 rfl) im_X9_fitsNoses (ci := 9) rfl sl_X9__X9_fitsNoses rfl (Nat.le_of_ble_eq_true rfl) (fun _ _ => Nat.le_of_ble_eq_true rfl) rfl rfl (Nat.le_of_ble_eq_true rfl) (Nat.le_of_ble_eq_true rfl) ?_
      refine c_fits hC' hA' hf1 (by rw [hag 7 (by decide)]; exact hnn) hn8 (fun j hj => by rw [hag 12 (by decide)]; exact hnc j hj) (fun j hj => by rw [hag 13 (by decide)]; exact hnp j hj) (k := k) (by omega) (fun _ m2 _ hag2 => (k_i ?_)) (fun h => absurd hP h)
      refine r_if_eq 58 69 rfl dX9_unknown_55 rfl (fun q__ => absurd q__ (by decide)) (fun _ => ?_)
      refine r_iinc 61 rfl (nI ((cn (fit D nc np nn) k) + 1)) [some (.ref 1), some (.int (nI w)), some (.int (nI ((cn (fit D nc np nn) k) + 1))), some (.int l), some (.int (nI k))] dX9_unknown_58 rfl (nI_1 _) (by decide) rfl ?_
      refine r_iload_n 62 rfl 3 dX9_unknown_61 rfl rfl ?_
      refine r_iconst 63 rfl (-1) dX9_unknown_62 rfl ?_
      refine r_icmp_ne 66 69 rfl dX9_unknown_63 rfl (fun c63 => ?_) (fun c63 => ?_)
      · refine r_iinc 72 rfl (nI (k + 1)) [some (.ref 1), some (.int (nI w)), some (.int (nI ((cn (fit D nc np nn) k) + 1))), some (.int l), some (.int (nI (k + 1)))] dX9_unknown_69 rfl (nI_1 _) (by decide) rfl ?_
        refine r_goto 41 dX9_unknown_72 rfl ?_
        rw [if_pos hP] at e1 e2
        rw [show cn (fit D nc np nn) k + 1 = cn (fit D nc np nn) (k + 1) from e1.symm]
        exact ih (k + 1) (by omega) l (Or.inr (hl.elim (fun h => absurd h.1 c63) id)) m2 (ag_t hag hag2 (by decide))
      · refine r_iload 68 rfl dX9_unknown_66 rfl ?_
        refine r_istore_n 69 rfl 3 [some (.ref 1), some (.int (nI w)), some (.int (nI ((cn (fit D nc np nn) k) + 1))), some (.int (nI k)), some (.int (nI k))] dX9_unknown_68 rfl (by decide) rfl ?_
        refine r_iinc 72 rfl (nI (k + 1)) [some (.ref 1), some (.int (nI w)), some (.int (nI ((cn (fit D nc np nn) k) + 1))), some (.int (nI k)), some (.int (nI (k + 1)))] dX9_unknown_69 rfl (nI_1 _) (by decide) rfl ?_
        refine r_goto 41 dX9_unknown_72 rfl ?_
        rw [if_pos hP] at e1 e2
        rw [show cn (fit D nc np nn) k + 1 = cn (fit D nc np nn) (k + 1) from e1.symm]
        exact ih (k + 1) (by omega) (nI k) (Or.inr ⟨nI_m1 (by omega), hl.elim (fun h => e2.symm.trans h.2) (fun h => absurd c63 h.1)⟩) m2 (ag_t hag hag2 (by decide))
    · refine r_iload 43 rfl dX9_unknown_41 rfl ?_
      refine r_sipush 46 rfl 216 dX9_unknown_43 (by decide) ?_
      refine r_icmp_ge 49 75 rfl dX9_unknown_46 rfl (fun q__ => absurd q__ (fun q__ => absurd ((nI_leI (a := 216) (b := k) (by omega) (by omega)).mp q__) (by omega))) (fun _ => ?_)
      refine r_aload_n 50 rfl 0 dX9_unknown_49 rfl rfl ?_
      refine r_iload 52 rfl dX9_unknown_50 rfl ?_
      refine q_V 55 0 0 rfl [.int (nI k)] rfl dX9_unknown_52 cl_X9_unknown__X9_fitsNoses (lk_X9_232 rfl) im_X9_fitsNoses (ci := 9) rfl sl_X9__X9_fitsNoses rfl (Nat.le_of_ble_eq_true rfl) (fun _ _ => Nat.le_of_ble_eq_true rfl) rfl rfl (Nat.le_of_ble_eq_true rfl) (Nat.le_of_ble_eq_true rfl) ?_
      refine c_fits hC' hA' hf1 (by rw [hag 7 (by decide)]; exact hnn) hn8 (fun j hj => by rw [hag 12 (by decide)]; exact hnc j hj) (fun j hj => by rw [hag 13 (by decide)]; exact hnp j hj) (k := k) (by omega) (fun h => absurd h hP) (fun _ m2 hag2 => (k_i ?_))
      refine r_if_eq 58 69 rfl dX9_unknown_55 rfl (fun _ => ?_) (fun q__ => absurd (by decide) q__)
      refine r_iinc 72 rfl (nI (k + 1)) [some (.ref 1), some (.int (nI w)), some (.int (nI (cn (fit D nc np nn) k))), some (.int l), some (.int (nI (k + 1)))] dX9_unknown_69 rfl (nI_1 _) (by decide) rfl ?_
      refine r_goto 41 dX9_unknown_72 rfl ?_
      rw [if_neg hP] at e1 e2
      rw [show cn (fit D nc np nn) k = cn (fit D nc np nn) (k + 1) from e1.symm]
      exact ih (k + 1) (by omega) l (hl.elim (fun h => Or.inl ⟨h.1, e2.symm.trans h.2⟩) Or.inr) m2 (ag_t hag hag2 (by decide))

set_option maxHeartbeats 4000000 in
set_option maxRecDepth 20000 in
theorem c9_unknown_o {Q : am_P} {z : am_Z} {m : Nat → Nat → Int32} {n : Nat} {y : Int32} (hy : y.toInt < 0 ∨ 2 ≤ y.toInt) (k : Q (some (.int (-102))) (wd z m) n) : AW mX9_unknown Q 0 (am_ent (am_l mX9_unknown) [.ref 1, .int y]) [] (wd z m) n 0 0 := by
  show AW _ _ 0 [some (.ref 1), some (.int y), none, none, none] [] _ _ 0 0
  refine r_iload_n 1 rfl 1 dX9_unknown_0 rfl rfl ?_
  refine q_S 4 0 0 rfl [.int y] rfl dX9_unknown_1 cl_X9_unknown__X9_isZeroOrOne (lk_X9_195 rfl) st_X9_isZeroOrOne (Nat.le_of_ble_eq_true rfl) (fun _ _ => Nat.le_of_ble_eq_true rfl) rfl rfl (Nat.le_of_ble_eq_true rfl) (Nat.le_of_ble_eq_true rfl) ?_
  refine c_is01_f (by omega) (k_i ?_)
  refine r_if_ne 7 10 rfl dX9_unknown_4 rfl (fun q__ => absurd (by decide) q__) (fun _ => ?_)
  refine r_bipush 9 rfl (-102) dX9_unknown_7 (by decide) ?_
  refine r_ireturn rfl dX9_unknown_9 (Nat.le_of_ble_eq_true rfl) (Nat.le_of_ble_eq_true rfl) ?_
  exact k

set_option maxHeartbeats 4000000 in
set_option maxRecDepth 20000 in
theorem c9_unknown_s0 {Q : am_P} {z : am_Z} {m : Nat → Nat → Int32} {n : Nat} {w : Nat} (hw : w ≤ 1) (hfd : m 4 2 = nI 0) (k : Q (some (.int (-103))) (wd z m) n) : AW mX9_unknown Q 0 (am_ent (am_l mX9_unknown) [.ref 1, .int (nI w)]) [] (wd z m) n 0 0 := by
  show AW _ _ 0 [some (.ref 1), some (.int (nI w)), none, none, none] [] _ _ 0 0
  refine r_iload_n 1 rfl 1 dX9_unknown_0 rfl rfl ?_
  refine q_S 4 0 0 rfl [.int (nI w)] rfl dX9_unknown_1 cl_X9_unknown__X9_isZeroOrOne (lk_X9_195 rfl) st_X9_isZeroOrOne (Nat.le_of_ble_eq_true rfl) (fun _ _ => Nat.le_of_ble_eq_true rfl) rfl rfl (Nat.le_of_ble_eq_true rfl) (Nat.le_of_ble_eq_true rfl) ?_
  refine c_is01_t hw (k_i ?_)
  refine r_if_ne 7 10 rfl dX9_unknown_4 rfl (fun _ => ?_) (fun q__ => absurd q__ (by decide))
  refine r_aload_n 11 rfl 0 dX9_unknown_10 rfl rfl ?_
  refine q_V 14 0 0 rfl [] rfl dX9_unknown_11 cl_X9_unknown__X9_mayAsk (lk_X9_226 rfl) im_X9_mayAsk (ci := 9) rfl sl_X9__X9_mayAsk rfl (Nat.le_of_ble_eq_true rfl) (fun _ _ => Nat.le_of_ble_eq_true rfl) rfl rfl (Nat.le_of_ble_eq_true rfl) (Nat.le_of_ble_eq_true rfl) ?_
  refine c_mayAsk_f0 hfd (k_i ?_)
  refine r_if_ne 17 20 rfl dX9_unknown_14 rfl (fun q__ => absurd (by decide) q__) (fun _ => ?_)
  refine r_bipush 19 rfl (-103) dX9_unknown_17 (by decide) ?_
  refine r_ireturn rfl dX9_unknown_19 (Nat.le_of_ble_eq_true rfl) (Nat.le_of_ble_eq_true rfl) ?_
  exact k

set_option maxHeartbeats 4000000 in
set_option maxRecDepth 20000 in
theorem c9_unknown_s1 {Q : am_P} {z : am_Z} {m : Nat → Nat → Int32} {n : Nat} {w : Nat} (hw : w ≤ 1) {a : Nat} (has : m 1 14 = nI a) (ha : a = 30) {fd : Nat} (hfd : m 4 2 = nI fd) (hf1 : 1 ≤ fd) (hf3 : fd ≤ 3) (k : Q (some (.int (-103))) (wd z m) n) : AW mX9_unknown Q 0 (am_ent (am_l mX9_unknown) [.ref 1, .int (nI w)]) [] (wd z m) n 0 0 := by
  show AW _ _ 0 [some (.ref 1), some (.int (nI w)), none, none, none] [] _ _ 0 0
  refine r_iload_n 1 rfl 1 dX9_unknown_0 rfl rfl ?_
  refine q_S 4 0 0 rfl [.int (nI w)] rfl dX9_unknown_1 cl_X9_unknown__X9_isZeroOrOne (lk_X9_195 rfl) st_X9_isZeroOrOne (Nat.le_of_ble_eq_true rfl) (fun _ _ => Nat.le_of_ble_eq_true rfl) rfl rfl (Nat.le_of_ble_eq_true rfl) (Nat.le_of_ble_eq_true rfl) ?_
  refine c_is01_t hw (k_i ?_)
  refine r_if_ne 7 10 rfl dX9_unknown_4 rfl (fun _ => ?_) (fun q__ => absurd q__ (by decide))
  refine r_aload_n 11 rfl 0 dX9_unknown_10 rfl rfl ?_
  refine q_V 14 0 0 rfl [] rfl dX9_unknown_11 cl_X9_unknown__X9_mayAsk (lk_X9_226 rfl) im_X9_mayAsk (ci := 9) rfl sl_X9__X9_mayAsk rfl (Nat.le_of_ble_eq_true rfl) (fun _ _ => Nat.le_of_ble_eq_true rfl) rfl rfl (Nat.le_of_ble_eq_true rfl) (Nat.le_of_ble_eq_true rfl) ?_
  refine c_mayAsk_f1 has ha hfd hf1 hf3 (k_i ?_)
  refine r_if_ne 17 20 rfl dX9_unknown_14 rfl (fun q__ => absurd (by decide) q__) (fun _ => ?_)
  refine r_bipush 19 rfl (-103) dX9_unknown_17 (by decide) ?_
  refine r_ireturn rfl dX9_unknown_19 (Nat.le_of_ble_eq_true rfl) (Nat.le_of_ble_eq_true rfl) ?_
  exact k

set_option maxHeartbeats 4000000 in
set_option maxRecDepth 20000 in
theorem c9_unknown_t {Q : am_P} {z : am_Z} {m : Nat → Nat → Int32} {n : Nat} {D : Nat → Nat → Nat} (hC : C9 z m D) (hf1 : 1 ≤ D 7 0) {nc : Nat → Nat} {np : Nat → Int32} {nn : Nat} (hnn : m 7 8 = nI nn) (hn8 : nn ≤ 8) (hnc : ∀ j, j < nn → m 12 j = nI (nc j) ∧ nc j < 8) (hnp : ∀ j, j < nn → m 13 j = np j) {w : Nat} (hw : w ≤ 1) {a : Nat} (has : m 1 14 = nI a) (ha : a < 30) (k : ∀ m', ag [29, 30, 31, 32, 33] (va_up m 1 (upd (m 1) 14 (nI (a + 1)))) m' → Q (some (.int (if w = 0 then nI (cn (fit D nc np nn) 216) else fl (fit D nc np nn) 216 0))) (wd z m') n) : AW mX9_unknown Q 0 (am_ent (am_l mX9_unknown) [.ref 1, .int (nI w)]) [] (wd z m) n 0 0 := by
  show AW _ _ 0 [some (.ref 1), some (.int (nI w)), none, none, none] [] _ _ 0 0
  obtain ⟨hg, hfd, hf3, hf0, hns, hn6, hsd, hsb, hwi, hw4, hfr, hr1, hhr, hh⟩ := id hC
  refine r_iload_n 1 rfl 1 dX9_unknown_0 rfl rfl ?_
  refine q_S 4 0 0 rfl [.int (nI w)] rfl dX9_unknown_1 cl_X9_unknown__X9_isZeroOrOne (lk_X9_195 rfl) st_X9_isZeroOrOne (Nat.le_of_ble_eq_true rfl) (fun _ _ => Nat.le_of_ble_eq_true rfl) rfl rfl (Nat.le_of_ble_eq_true rfl) (Nat.le_of_ble_eq_true rfl) ?_
  refine c_is01_t hw (k_i ?_)
  refine r_if_ne 7 10 rfl dX9_unknown_4 rfl (fun _ => ?_) (fun q__ => absurd q__ (by decide))
  refine r_aload_n 11 rfl 0 dX9_unknown_10 rfl rfl ?_
  refine q_V 14 0 0 rfl [] rfl dX9_unknown_11 cl_X9_unknown__X9_mayAsk (lk_X9_226 rfl) im_X9_mayAsk (ci := 9) rfl sl_X9__X9_mayAsk rfl (Nat.le_of_ble_eq_true rfl) (fun _ _ => Nat.le_of_ble_eq_true rfl) rfl rfl (Nat.le_of_ble_eq_true rfl) (Nat.le_of_ble_eq_true rfl) ?_
  refine c_mayAsk_t has ha hfd hf1 hf3 (k_i ?_)
  refine r_if_ne 17 20 rfl dX9_unknown_14 rfl (fun _ => ?_) (fun q__ => absurd q__ (by decide))
  refine r_aload_n 21 rfl 0 dX9_unknown_20 rfl rfl ?_
  refine r_dup 22 rfl dX9_unknown_21 rfl ?_
  refine r_getf (v := .int ((m 1) 14)) (k := 14) 25 rfl dX9_unknown_22 (gf_X9_229_9 rfl) rfl rfl ?_
  rw [show (m 1) 14 = nI a from has]
  refine r_iconst 26 rfl 1 dX9_unknown_25 rfl ?_
  refine r_iadd 27 rfl dX9_unknown_26 ?_
  rw [show (nI a) + 1 = nI (a + 1) from nI_add a 1]
  refine w_putf 30 rfl (k := 14) (va_up m 1 (upd (m 1) 14 (nI (a + 1)))) dX9_unknown_27 (pf_X9_229_9 rfl) (by decide) (by decide) rfl (Nat.le_of_ble_eq_true rfl) rfl ⟨rfl, rfl⟩ rfl ?_
  refine r_aload_n 31 rfl 0 dX9_unknown_30 rfl rfl ?_
  refine q_V 34 0 0 rfl [] rfl dX9_unknown_31 cl_X9_unknown__X9_settleNow (lk_X9_103 rfl) im_X9_settleNow (ci := 9) rfl sl_X9__X9_settleNow rfl (Nat.le_of_ble_eq_true rfl) (fun _ _ => Nat.le_of_ble_eq_true rfl) rfl rfl (Nat.le_of_ble_eq_true rfl) (Nat.le_of_ble_eq_true rfl) ?_
  refine c_settleNow (m := (va_up m 1 (upd (m 1) 14 (nI (a + 1))))) (D := D) hC (fun m' hA hag => (k_v ?_))
  refine r_iconst 35 rfl 0 dX9_unknown_34 rfl ?_
  refine r_istore_n 36 rfl 2 [some (.ref 1), some (.int (nI w)), some (.int 0), none, none] dX9_unknown_35 rfl (by decide) rfl ?_
  refine r_iconst 37 rfl (-1) dX9_unknown_36 rfl ?_
  refine r_istore_n 38 rfl 3 [some (.ref 1), some (.int (nI w)), some (.int 0), some (.int (-1)), none] dX9_unknown_37 rfl (by decide) rfl ?_
  refine r_iconst 39 rfl 0 dX9_unknown_38 rfl ?_
  refine r_istore 41 rfl [some (.ref 1), some (.int (nI w)), some (.int 0), some (.int (-1)), some (.int 0)] dX9_unknown_39 (by decide) rfl ?_
  exact lp_unk9 (C9_ag (m := (va_up m 1 (upd (m 1) 14 (nI (a + 1))))) (D := D) hC hag (by decide)) hA hf1 (by rw [hag 7 (by decide)]; exact hnn) hn8 (fun j hj => by rw [hag 12 (by decide)]; exact hnc j hj) (fun j hj => by rw [hag 13 (by decide)]; exact hnp j hj) hw (fun m2 hag2 => k m2 (ag_t (ag_w hag (by decide)) hag2 (by decide))) 216 0 rfl (-1) (Or.inl ⟨rfl, rfl⟩) m' (ag_r _ _)

set_option maxHeartbeats 4000000 in
set_option maxRecDepth 20000 in
theorem lp_unk10 {Q : am_P} {z : am_Z} {m : Nat → Nat → Int32} {n : Nat} {D : Nat → Nat → Nat} (hC : C10 m D) (hn : D 7 1 ≤ 6) (hf1 : 1 ≤ D 7 0) {nc : Nat → Nat} {np : Nat → Int32} {nn : Nat} (hnn : m 37 18 = nI nn) (hn8 : nn ≤ 8) (hnc : ∀ j, j < nn → m 48 (2 * j) = nI (nc j) ∧ nc j < 8) (hnp : ∀ j, j < nn → m 48 (2 * j + 1) = np j) {w : Nat} (hw : w ≤ 1) (kq : ∀ m', (∀ j, j < 6 * D 7 1 → m' 42 j = m 42 j) → ag [42, 43, 44, 45] m m' → Q (some (.int (if w = 0 then nI (cn (fit D nc np nn) 216) else fl (fit D nc np nn) 216 0))) (wd z m') n) : ∀ (c : Nat), c ≤ 216 → ∀ (j : Nat) (l : Int32), j + cn (fit D nc np nn) c = cn (fit D nc np nn) 216 → l = fl (fit D nc np nn) (216 - c) c → ∀ m', (∀ j, j < 6 * D 7 1 → m' 42 j = m 42 j) → ag [42, 43, 44, 45] m m' → AW mX10_unknown Q 51 [some (.ref 37), some (.int (nI w)), some (.int (nI j)), some (.int l), some (.int (nI c + (-1)))] [] (wd z m') n 0 0 := by
  intro c
  induction c with
  | zero =>
    intro _ j l hj hl m' h42 hag
    have hj : j = cn (fit D nc np nn) 216 := hj
    have hl : l = fl (fit D nc np nn) 216 0 := hl
    have kq := kq m' h42 hag
    refine r_iload 53 rfl dX10_unknown_51 rfl ?_
    refine r_if_lt 56 77 rfl dX10_unknown_53 rfl (fun _ => ?_) (fun q__ => absurd (by decide) q__)
    refine r_iload_n 78 rfl 1 dX10_unknown_77 rfl rfl ?_
    refine r_if_ne 81 85 rfl dX10_unknown_78 rfl (fun c78 => ?_) (fun c78 => ?_)
    · replace c78 : ¬ w = 0 := fun q__ => c78 ((nI_eq (a := w) (b := 0) (by omega) (by omega)).mpr q__)
      refine r_iload_n 86 rfl 3 dX10_unknown_85 rfl rfl ?_
      refine r_ireturn rfl dX10_unknown_86 (Nat.le_of_ble_eq_true rfl) (Nat.le_of_ble_eq_true rfl) ?_
      rw [if_neg (by omega)] at kq
      rw [hl]
      exact kq
    · replace c78 : w = 0 := (nI_eq (a := w) (b := 0) (by omega) (by omega)).mp c78
      refine r_iload_n 82 rfl 2 dX10_unknown_81 rfl rfl ?_
      refine r_goto 86 dX10_unknown_82 rfl ?_
      refine r_ireturn rfl dX10_unknown_86 (Nat.le_of_ble_eq_true rfl) (Nat.le_of_ble_eq_true rfl) ?_
      rw [if_pos (by omega)] at kq
      rw [hj]
      exact kq
  | succ c ih =>
    intro hc j l hj hl m' h42 hag
    rw [show nI (c + 1) + (-1) = nI c from nI_prd c]
    have hcn := cn_le (fit D nc np nn) 216
    have hC' := C10_42 hC hag h42
    have e1 : cn (fit D nc np nn) (c + 1) = cn (fit D nc np nn) c + (if (fit D nc np nn) c = true then 1 else 0) := rfl
    have e2 : fl (fit D nc np nn) (216 - c) c = if (fit D nc np nn) c = true then nI c else fl (fit D nc np nn) (216 - (c + 1)) (c + 1) := by
      rw [show 216 - c = (216 - (c + 1)) + 1 by omega]; rfl
    by_cases hP : (fit D nc np nn) c = true
    · refine r_iload 53 rfl dX10_unknown_51 rfl ?_
      refine r_if_lt 56 77 rfl dX10_unknown_53 rfl (fun q__ => absurd q__ (fun q__ => absurd ((nI_ltI (a := c) (b := 0) (by omega) (by omega)).mp q__) (by omega))) (fun _ => ?_)
      refine r_aload_n 57 rfl 0 dX10_unknown_56 rfl rfl ?_
      refine r_iload 59 rfl dX10_unknown_57 rfl ?_
      refine q_V 62 0 0 rfl [.int (nI c)] rfl dX10_unknown_59 cl_X10_unknown__X10_isSmeltBy (lk_X10_204 rfl) im_X10_isSmeltBy (ci := 10) rfl sl_X10__X10_isSmeltBy rfl (Nat.le_of_ble_eq_true rfl) (fun _ _ => Nat.le_of_ble_eq_true rfl) rfl rfl (Nat.le_of_ble_eq_true rfl) (Nat.le_of_ble_eq_true rfl) ?_
      refine c_smelt hC' hn hf1 (by rw [hag 37 (by decide)]; exact hnn) hn8 (fun j hj => by rw [hag 48 (by decide)]; exact hnc j hj) (fun j hj => by rw [hag 48 (by decide)]; exact hnp j hj) (k := c) (by omega) (fun _ m2 _ _ g42 hag2 => (k_i ?_)) (fun h => absurd hP h)
      refine r_if_eq 65 71 rfl dX10_unknown_62 rfl (fun q__ => absurd q__ (by decide)) (fun _ => ?_)
      refine r_iinc 68 rfl (nI (j + 1)) [some (.ref 37), some (.int (nI w)), some (.int (nI (j + 1))), some (.int l), some (.int (nI c))] dX10_unknown_65 rfl (nI_1 _) (by decide) rfl ?_
      refine r_iload 70 rfl dX10_unknown_68 rfl ?_
      refine r_istore_n 71 rfl 3 [some (.ref 37), some (.int (nI w)), some (.int (nI (j + 1))), some (.int (nI c)), some (.int (nI c))] dX10_unknown_70 rfl (by decide) rfl ?_
      refine r_iinc 74 rfl (nI c + (-1)) [some (.ref 37), some (.int (nI w)), some (.int (nI (j + 1))), some (.int (nI c)), some (.int (nI c + (-1)))] dX10_unknown_71 rfl rfl (by decide) rfl ?_
      refine r_goto 51 dX10_unknown_74 rfl ?_
      rw [if_pos hP] at e1 e2
      exact ih (by omega) (j + 1) (nI c) (by omega) e2.symm m2 (fun q hq => (g42 q hq).trans (h42 q hq)) (ag_t hag hag2 (by decide))
    · refine r_iload 53 rfl dX10_unknown_51 rfl ?_
      refine r_if_lt 56 77 rfl dX10_unknown_53 rfl (fun q__ => absurd q__ (fun q__ => absurd ((nI_ltI (a := c) (b := 0) (by omega) (by omega)).mp q__) (by omega))) (fun _ => ?_)
      refine r_aload_n 57 rfl 0 dX10_unknown_56 rfl rfl ?_
      refine r_iload 59 rfl dX10_unknown_57 rfl ?_
      refine q_V 62 0 0 rfl [.int (nI c)] rfl dX10_unknown_59 cl_X10_unknown__X10_isSmeltBy (lk_X10_204 rfl) im_X10_isSmeltBy (ci := 10) rfl sl_X10__X10_isSmeltBy rfl (Nat.le_of_ble_eq_true rfl) (fun _ _ => Nat.le_of_ble_eq_true rfl) rfl rfl (Nat.le_of_ble_eq_true rfl) (Nat.le_of_ble_eq_true rfl) ?_
      refine c_smelt hC' hn hf1 (by rw [hag 37 (by decide)]; exact hnn) hn8 (fun j hj => by rw [hag 48 (by decide)]; exact hnc j hj) (fun j hj => by rw [hag 48 (by decide)]; exact hnp j hj) (k := c) (by omega) (fun h => absurd h hP) (fun _ m2 g42 hag2 => (k_i ?_))
      refine r_if_eq 65 71 rfl dX10_unknown_62 rfl (fun _ => ?_) (fun q__ => absurd (by decide) q__)
      refine r_iinc 74 rfl (nI c + (-1)) [some (.ref 37), some (.int (nI w)), some (.int (nI j)), some (.int l), some (.int (nI c + (-1)))] dX10_unknown_71 rfl rfl (by decide) rfl ?_
      refine r_goto 51 dX10_unknown_74 rfl ?_
      rw [if_neg hP] at e1 e2
      exact ih (by omega) j l (by omega) (hl.trans e2.symm) m2 (fun q hq => (g42 q hq).trans (h42 q hq)) (ag_t hag hag2 (by decide))

set_option maxHeartbeats 4000000 in
set_option maxRecDepth 20000 in
theorem c10_unknown_o {Q : am_P} {z : am_Z} {m : Nat → Nat → Int32} {n : Nat} {y : Int32} (hy : y.toInt < 0 ∨ 2 ≤ y.toInt) (k : Q (some (.int (-102))) (wd z m) n) : AW mX10_unknown Q 0 (am_ent (am_l mX10_unknown) [.ref 37, .int y]) [] (wd z m) n 0 0 := by
  show AW _ _ 0 [some (.ref 37), some (.int y), none, none, none] [] _ _ 0 0
  refine r_iload_n 1 rfl 1 dX10_unknown_0 rfl rfl ?_
  refine r_i2l 2 rfl dX10_unknown_1 ?_
  refine r_lconst 3 rfl 0 dX10_unknown_2 rfl ?_
  refine r_lconst 4 rfl 1 dX10_unknown_3 rfl ?_
  refine q_S 7 0 0 rfl [.long y.toInt64, .long 0, .long 1] rfl dX10_unknown_4 cl_X10_unknown__X10_in (lk_X10_64 rfl) st_X10_in (Nat.le_of_ble_eq_true rfl) (fun _ _ => Nat.le_of_ble_eq_true rfl) rfl rfl (Nat.le_of_ble_eq_true rfl) (Nat.le_of_ble_eq_true rfl) ?_
  refine c_in_f (show y.toInt64.toInt < (0 : Int) ∨ (1 : Int) < y.toInt64.toInt by rw [Int32.toInt_toInt64]; omega) (k_i ?_)
  refine r_if_ne 10 13 rfl dX10_unknown_7 rfl (fun q__ => absurd (by decide) q__) (fun _ => ?_)
  refine r_bipush 12 rfl (-102) dX10_unknown_10 (by decide) ?_
  refine r_ireturn rfl dX10_unknown_12 (Nat.le_of_ble_eq_true rfl) (Nat.le_of_ble_eq_true rfl) ?_
  exact k

set_option maxHeartbeats 4000000 in
set_option maxRecDepth 20000 in
theorem c10_unknown_s0 {Q : am_P} {z : am_Z} {m : Nat → Nat → Int32} {n : Nat} {w : Nat} (hw : w ≤ 1) (hfd : m 37 2 = nI 0) (k : Q (some (.int (-103))) (wd z m) n) : AW mX10_unknown Q 0 (am_ent (am_l mX10_unknown) [.ref 37, .int (nI w)]) [] (wd z m) n 0 0 := by
  show AW _ _ 0 [some (.ref 37), some (.int (nI w)), none, none, none] [] _ _ 0 0
  refine r_iload_n 1 rfl 1 dX10_unknown_0 rfl rfl ?_
  refine r_i2l 2 rfl dX10_unknown_1 ?_
  refine r_lconst 3 rfl 0 dX10_unknown_2 rfl ?_
  refine r_lconst 4 rfl 1 dX10_unknown_3 rfl ?_
  refine q_S 7 0 0 rfl [.long ((nI w).toInt64), .long 0, .long 1] rfl dX10_unknown_4 cl_X10_unknown__X10_in (lk_X10_64 rfl) st_X10_in (Nat.le_of_ble_eq_true rfl) (fun _ _ => Nat.le_of_ble_eq_true rfl) rfl rfl (Nat.le_of_ble_eq_true rfl) (Nat.le_of_ble_eq_true rfl) ?_
  refine c_in_t (show (0 : Int) ≤ (nI w).toInt64.toInt by rw [Int32.toInt_toInt64, nI_toInt (by omega)]; omega) (show (nI w).toInt64.toInt ≤ (1 : Int) by rw [Int32.toInt_toInt64, nI_toInt (by omega)]; omega) (k_i ?_)
  refine r_if_ne 10 13 rfl dX10_unknown_7 rfl (fun _ => ?_) (fun q__ => absurd q__ (by decide))
  refine r_aload_n 14 rfl 0 dX10_unknown_13 rfl rfl ?_
  refine q_V 17 0 0 rfl [] rfl dX10_unknown_14 cl_X10_unknown__X10_lacks (lk_X10_109 rfl) im_X10_lacks (ci := 10) rfl sl_X10__X10_lacks rfl (Nat.le_of_ble_eq_true rfl) (fun _ _ => Nat.le_of_ble_eq_true rfl) rfl rfl (Nat.le_of_ble_eq_true rfl) (Nat.le_of_ble_eq_true rfl) ?_
  refine c_lacks_t hfd (k_i ?_)
  refine r_if_ne 20 29 rfl dX10_unknown_17 rfl (fun _ => ?_) (fun q__ => absurd q__ (by decide))
  refine r_bipush 31 rfl (-103) dX10_unknown_29 (by decide) ?_
  refine r_ireturn rfl dX10_unknown_31 (Nat.le_of_ble_eq_true rfl) (Nat.le_of_ble_eq_true rfl) ?_
  exact k

set_option maxHeartbeats 4000000 in
set_option maxRecDepth 20000 in
theorem c10_unknown_s1 {Q : am_P} {z : am_Z} {m : Nat → Nat → Int32} {n : Nat} {w : Nat} (hw : w ≤ 1) {a : Nat} (has : m 37 19 = nI a) (ha : a = 30) {fd : Nat} (hfd : m 37 2 = nI fd) (hf1 : 1 ≤ fd) (hf3 : fd ≤ 3) (k : Q (some (.int (-103))) (wd z m) n) : AW mX10_unknown Q 0 (am_ent (am_l mX10_unknown) [.ref 37, .int (nI w)]) [] (wd z m) n 0 0 := by
  show AW _ _ 0 [some (.ref 37), some (.int (nI w)), none, none, none] [] _ _ 0 0
  refine r_iload_n 1 rfl 1 dX10_unknown_0 rfl rfl ?_
  refine r_i2l 2 rfl dX10_unknown_1 ?_
  refine r_lconst 3 rfl 0 dX10_unknown_2 rfl ?_
  refine r_lconst 4 rfl 1 dX10_unknown_3 rfl ?_
  refine q_S 7 0 0 rfl [.long ((nI w).toInt64), .long 0, .long 1] rfl dX10_unknown_4 cl_X10_unknown__X10_in (lk_X10_64 rfl) st_X10_in (Nat.le_of_ble_eq_true rfl) (fun _ _ => Nat.le_of_ble_eq_true rfl) rfl rfl (Nat.le_of_ble_eq_true rfl) (Nat.le_of_ble_eq_true rfl) ?_
  refine c_in_t (show (0 : Int) ≤ (nI w).toInt64.toInt by rw [Int32.toInt_toInt64, nI_toInt (by omega)]; omega) (show (nI w).toInt64.toInt ≤ (1 : Int) by rw [Int32.toInt_toInt64, nI_toInt (by omega)]; omega) (k_i ?_)
  refine r_if_ne 10 13 rfl dX10_unknown_7 rfl (fun _ => ?_) (fun q__ => absurd q__ (by decide))
  refine r_aload_n 14 rfl 0 dX10_unknown_13 rfl rfl ?_
  refine q_V 17 0 0 rfl [] rfl dX10_unknown_14 cl_X10_unknown__X10_lacks (lk_X10_109 rfl) im_X10_lacks (ci := 10) rfl sl_X10__X10_lacks rfl (Nat.le_of_ble_eq_true rfl) (fun _ _ => Nat.le_of_ble_eq_true rfl) rfl rfl (Nat.le_of_ble_eq_true rfl) (Nat.le_of_ble_eq_true rfl) ?_
  refine c_lacks_f hfd hf1 hf3 (k_i ?_)
  refine r_if_ne 20 29 rfl dX10_unknown_17 rfl (fun q__ => absurd (by decide) q__) (fun _ => ?_)
  refine r_aload_n 21 rfl 0 dX10_unknown_20 rfl rfl ?_
  refine r_getf (v := .int ((m 37) 19)) (k := 19) 24 rfl dX10_unknown_21 (gf_X10_201_10 rfl) rfl rfl ?_
  rw [show (m 37) 19 = nI a from has]
  refine r_bipush 26 rfl 30 dX10_unknown_24 (by decide) ?_
  refine r_icmp_ne 29 32 rfl dX10_unknown_26 rfl (fun q__ => absurd ((nI_eq (a := a) (b := 30) (by omega) (by omega)).mpr (by omega)) q__) (fun _ => ?_)
  refine r_bipush 31 rfl (-103) dX10_unknown_29 (by decide) ?_
  refine r_ireturn rfl dX10_unknown_31 (Nat.le_of_ble_eq_true rfl) (Nat.le_of_ble_eq_true rfl) ?_
  exact k

set_option maxHeartbeats 4000000 in
set_option maxRecDepth 20000 in
theorem c10_unknown_t {Q : am_P} {z : am_Z} {m : Nat → Nat → Int32} {n : Nat} {D : Nat → Nat → Nat} (hC : C10 m D) (hn : D 7 1 ≤ 6) (hf1 : 1 ≤ D 7 0) {nc : Nat → Nat} {np : Nat → Int32} {nn : Nat} (hnn : m 37 18 = nI nn) (hn8 : nn ≤ 8) (hnc : ∀ j, j < nn → m 48 (2 * j) = nI (nc j) ∧ nc j < 8) (hnp : ∀ j, j < nn → m 48 (2 * j + 1) = np j) {w : Nat} (hw : w ≤ 1) {a : Nat} (has : m 37 19 = nI a) (ha : a < 30) (k : ∀ m', (∀ j, j < 6 * D 7 1 → m' 42 j = m 42 j) → ag [42, 43, 44, 45] (va_up m 37 (upd (m 37) 19 (nI (a + 1)))) m' → Q (some (.int (if w = 0 then nI (cn (fit D nc np nn) 216) else fl (fit D nc np nn) 216 0))) (wd z m') n) : AW mX10_unknown Q 0 (am_ent (am_l mX10_unknown) [.ref 37, .int (nI w)]) [] (wd z m) n 0 0 := by
  show AW _ _ 0 [some (.ref 37), some (.int (nI w)), none, none, none] [] _ _ 0 0
  obtain ⟨hg, hfd, hf3, hf0, hns, hn7, hmr, hwi, hw4, hfr, hr1, hhr, hh⟩ := id hC
  refine r_iload_n 1 rfl 1 dX10_unknown_0 rfl rfl ?_
  refine r_i2l 2 rfl dX10_unknown_1 ?_
  refine r_lconst 3 rfl 0 dX10_unknown_2 rfl ?_
  refine r_lconst 4 rfl 1 dX10_unknown_3 rfl ?_
  refine q_S 7 0 0 rfl [.long ((nI w).toInt64), .long 0, .long 1] rfl dX10_unknown_4 cl_X10_unknown__X10_in (lk_X10_64 rfl) st_X10_in (Nat.le_of_ble_eq_true rfl) (fun _ _ => Nat.le_of_ble_eq_true rfl) rfl rfl (Nat.le_of_ble_eq_true rfl) (Nat.le_of_ble_eq_true rfl) ?_
  refine c_in_t (show (0 : Int) ≤ (nI w).toInt64.toInt by rw [Int32.toInt_toInt64, nI_toInt (by omega)]; omega) (show (nI w).toInt64.toInt ≤ (1 : Int) by rw [Int32.toInt_toInt64, nI_toInt (by omega)]; omega) (k_i ?_)
  refine r_if_ne 10 13 rfl dX10_unknown_7 rfl (fun _ => ?_) (fun q__ => absurd q__ (by decide))
  refine r_aload_n 14 rfl 0 dX10_unknown_13 rfl rfl ?_
  refine q_V 17 0 0 rfl [] rfl dX10_unknown_14 cl_X10_unknown__X10_lacks (lk_X10_109 rfl) im_X10_lacks (ci := 10) rfl sl_X10__X10_lacks rfl (Nat.le_of_ble_eq_true rfl) (fun _ _ => Nat.le_of_ble_eq_true rfl) rfl rfl (Nat.le_of_ble_eq_true rfl) (Nat.le_of_ble_eq_true rfl) ?_
  refine c_lacks_f hfd hf1 hf3 (k_i ?_)
  refine r_if_ne 20 29 rfl dX10_unknown_17 rfl (fun q__ => absurd (by decide) q__) (fun _ => ?_)
  refine r_aload_n 21 rfl 0 dX10_unknown_20 rfl rfl ?_
  refine r_getf (v := .int ((m 37) 19)) (k := 19) 24 rfl dX10_unknown_21 (gf_X10_201_10 rfl) rfl rfl ?_
  rw [show (m 37) 19 = nI a from has]
  refine r_bipush 26 rfl 30 dX10_unknown_24 (by decide) ?_
  refine r_icmp_ne 29 32 rfl dX10_unknown_26 rfl (fun _ => ?_) (fun q__ => absurd q__ (fun q__ => absurd ((nI_eq (a := a) (b := 30) (by omega) (by omega)).mp q__) (by omega)))
  refine r_aload_n 33 rfl 0 dX10_unknown_32 rfl rfl ?_
  refine r_dup 34 rfl dX10_unknown_33 rfl ?_
  refine r_getf (v := .int ((m 37) 19)) (k := 19) 37 rfl dX10_unknown_34 (gf_X10_201_10 rfl) rfl rfl ?_
  rw [show (m 37) 19 = nI a from has]
  refine r_iconst 38 rfl 1 dX10_unknown_37 rfl ?_
  refine r_iadd 39 rfl dX10_unknown_38 ?_
  rw [show (nI a) + 1 = nI (a + 1) from nI_add a 1]
  refine w_putf 42 rfl (k := 19) (va_up m 37 (upd (m 37) 19 (nI (a + 1)))) dX10_unknown_39 (pf_X10_201_10 rfl) (by decide) (by decide) rfl (Nat.le_of_ble_eq_true rfl) rfl ⟨rfl, rfl⟩ rfl ?_
  refine r_iconst 43 rfl 0 dX10_unknown_42 rfl ?_
  refine r_istore_n 44 rfl 2 [some (.ref 37), some (.int (nI w)), some (.int 0), none, none] dX10_unknown_43 rfl (by decide) rfl ?_
  refine r_iconst 45 rfl (-1) dX10_unknown_44 rfl ?_
  refine r_istore_n 46 rfl 3 [some (.ref 37), some (.int (nI w)), some (.int 0), some (.int (-1)), none] dX10_unknown_45 rfl (by decide) rfl ?_
  refine r_sipush 49 rfl 215 dX10_unknown_46 (by decide) ?_
  refine r_istore 51 rfl [some (.ref 37), some (.int (nI w)), some (.int 0), some (.int (-1)), some (.int 215)] dX10_unknown_49 (by decide) rfl ?_
  exact lp_unk10 (m := (va_up m 37 (upd (m 37) 19 (nI (a + 1))))) (D := D) hC hn hf1 hnn hn8 hnc hnp hw (fun m2 h42 hag2 => k m2 h42 hag2) 216 (Nat.le_refl _) 0 (-1) (by omega) rfl (va_up m 37 (upd (m 37) 19 (nI (a + 1)))) (fun _ _ => rfl) (ag_r _ _)

theorem IV_ask {i : Nat} {z : am_Z} {m : Nat → Nat → Int32} {n : Nat} {D K : Nat → Nat → Nat} (hI : IV i z m n D K) (ha : D 8 4 < 30) : IV i z (va_up (va_up m 1 (upd (m 1) 14 (nI (D 8 4 + 1)))) 37 (upd (m 37) 19 (nI (D 8 4 + 1)))) n (va_up D 8 (va_up (D 8) 4 (D 8 4 + 1))) K := by
  obtain ⟨h9, h10, hnz, hpg, hop, hnw, ⟨c1, c2, c3, c4, c5, c6⟩, him⟩ := hI
  exact ⟨h9, h10, hnz, hpg, hop, hnw, ⟨c1, c2, ⟨rfl, rfl, (show D 8 4 + 1 ≤ 30 by omega)⟩, c4, c5, c6⟩, him⟩
theorem noses_of {m : Nat → Nat → Int32} {D : Nat → Nat → Nat} (h : NW m D) : (∀ j, j < D 8 1 → m 12 j = nI ((m 12 j).toInt.toNat) ∧ (m 12 j).toInt.toNat < 8) ∧ ∀ j, j < D 8 1 → m 48 (2 * j) = nI ((m 12 j).toInt.toNat) ∧ (m 12 j).toInt.toNat < 8 := by
  have h1 : ∀ j, j < D 8 1 → m 12 j = nI ((m 12 j).toInt.toNat) ∧ (m 12 j).toInt.toNat < 8 := fun j hj => by
    obtain ⟨q, hq, e⟩ := (h.1.2.2.2 j hj).2.2
    have e : m 12 j = nI q := e
    rw [e, nI_toInt (by omega)]
    have e2 : ((q : Int)).toNat = q := Int.toNat_natCast q
    rw [e2]
    exact ⟨rfl, hq⟩
  exact ⟨h1, fun j hj => by rw [← (h.1.2.2.2 j hj).1]; exact h1 j hj⟩

set_option maxHeartbeats 4000000 in
set_option maxRecDepth 20000 in
theorem P_unknown {i : Nat} {z : am_Z} {m : Nat → Nat → Int32} {n : Nat} {D K : Nat → Nat → Nat} (hI : IV i z m n D K) (hi : i + 5 ≤ 2560) (x : Int32) : AW mX9_unknown (PR (i + 5) mX10_unknown [.ref 37, .int x]) 0 (am_ent (am_l mX9_unknown) [.ref 1, .int x]) [] (wd z m) n 0 0 := by
  obtain ⟨h9, h10, hnz, hpg, hop, hnw, hct, him⟩ := id hI
  obtain ⟨hg, hfd, hf3, hf0, hns, hn6, hsd, hsb, hwi, hw4, hfr, hr1, hhr, hh⟩ := id h9
  obtain ⟨gg, gfd, gf3, gf0, gns, gn7, gmr, gwi, gw4, gfr, gr1, ghr, gh⟩ := id h10
  obtain ⟨n1, n2⟩ := noses_of hnw
  have has := hct.2.2.1
  rcases i_cases x 2 (by decide) with hx | ⟨w, hw, rfl⟩
  · exact c9_unknown_o hx (PR_i (fun Q2 k => c10_unknown_o hx (k _ _ _ _ _ (IV_mono hI (by omega) hi))))
  · by_cases hf : D 7 0 = 0
    · exact c9_unknown_s0 (by omega) (by rw [hfd, hf]) (PR_i (fun Q2 k => c10_unknown_s0 (by omega) (by rw [gfd, hf]) (k _ _ _ _ _ (IV_mono hI (by omega) hi))))
    · by_cases ha : D 8 4 = 30
      · exact c9_unknown_s1 (by omega) has.1 ha hfd (by omega) hf3 (PR_i (fun Q2 k => c10_unknown_s1 (by omega) has.2.1 ha gfd (by omega) gf3 (k _ _ _ _ _ (IV_mono hI (by omega) hi))))
      · refine c9_unknown_t (nc := fun j => (m 12 j).toInt.toNat) (np := m 13) h9 (by omega) hnw.2.1 hnw.1.2.2.1 n1 (fun _ _ => rfl) (w := w) (by omega) has.1 (by omega) (fun m1 hag => PR_i (fun Q2 k => ?_))
        have e (x : Nat) (hx : x ∉ [1, 29, 30, 31, 32, 33]) : m1 x = m x := by
          have hx1 : x ≠ 1 := fun q => hx (by rw [q]; decide)
          rw [hag x (fun q => hx (List.mem_cons_of_mem _ q)), va_up_ne _ _ hx1]
        refine c10_unknown_t (D := D) (nn := D 8 1) (nc := fun j => (m 12 j).toInt.toNat) (np := m 13) (C10_ag (m := m) h10 (S := [1, 29, 30, 31, 32, 33]) e (by decide)) hn6 (by omega) (by rw [e 37 (by decide)]; exact hnw.2.2.1) hnw.1.2.2.1 (fun j hj => by rw [e 48 (by decide)]; exact n2 j hj) (fun j hj => by rw [e 48 (by decide)]; exact (hnw.1.2.2.2 j hj).2.1.symm) (w := w) (by omega) (a := D 8 4) (by rw [e 37 (by decide)]; exact has.2.1) (by omega) (fun m2 h42 hag2 => ?_)
        refine k _ _ _ _ _ (IV_mono (IV_ag2 (IV_ask hI (by omega)) (m' := m2) (fun x hx => ?_) (fun j hj => ?_) (fun j hj => ?_)) (by omega) hi)
        · have hx' := hx
          simp only [List.mem_cons, List.not_mem_nil, or_false, not_or] at hx'
          have h1 : x ≠ 37 := fun q => hx (by rw [q]; decide)
          rw [hag2 x (fun q => hx (by simp only [List.mem_cons, List.not_mem_nil, or_false] at q ⊢; omega)), va_up_ne _ _ h1, va_up_ne _ _ h1]
          exact hag x (fun q => hx (by simp only [List.mem_cons, List.not_mem_nil, or_false] at q ⊢; omega))
        · rw [hag2 37 (by decide), va_up_self, va_up_self, e 37 (by decide)]
        · rw [h42 j hj, e 42 (by decide)]; rfl
