set_option maxHeartbeats 400000 in
set_option maxRecDepth 20000 in
theorem lp_sc1 {Q : am_P} {z : am_Z} {m : Nat → Nat → Int32} {n : Nat} {i : Nat} {D K : Nat → Nat → Nat} (hI : IV i z m n D K) {c : Nat} (hc : c < 8) {x : Int64} (kx : ∀ m', (∀ j, j < 42 → m' 42 j = m 42 j) → ag [42, 43, 44, 45, 47] m m' → AW mX10_sayCell Q 24 [some (.ref 37), some (.int (nI c)), none] [] (wd (zh z (dg (fun w => TC D (m 10 c) c w) x 5)) m') n 0 0) : ∀ (d w : Nat), w + d = 5 → ∀ m', (∀ j, j < 42 → m' 42 j = m 42 j) → ag [42, 43, 44, 45, 47] m m' → AW mX10_sayCell Q 2 [some (.ref 37), some (.int (nI c)), some (.int (nI w))] [] (wd (zh z (dg (fun w => TC D (m 10 c) c w) x w)) m') n 0 0 := by
  intro d
  induction d with
  | zero =>
    intro w hw m' h42 hag
    obtain rfl : w = 5 := by omega
    refine r_iload_n 3 rfl 2 dX10_sayCell_2 rfl rfl ?_
    refine r_iconst 4 rfl 5 dX10_sayCell_3 rfl ?_
    refine r_icmp_ge 7 24 rfl dX10_sayCell_4 rfl (fun _ => ?_) (fun q__ => absurd ((nI_leI (a := 5) (b := 5) (by omega) (by omega)).mpr (by omega)) q__)
    refine AW.drop 2 [some (.ref 37), some (.int (nI c)), none] rfl ?_
    exact kx m' h42 hag
  | succ d ih =>
    intro w hw m' h42 hag
    have hI' := IV_dg hI h42 hag
    have e40 : m' 40 c = m 10 c := by rw [hag 40 (by decide)]; exact (hI.2.2.2.2.2.1.1.1 c hc).symm
    refine r_iload_n 3 rfl 2 dX10_sayCell_2 rfl rfl ?_
    refine r_iconst 4 rfl 5 dX10_sayCell_3 rfl ?_
    refine r_icmp_ge 7 24 rfl dX10_sayCell_4 rfl (fun q__ => absurd q__ (fun q__ => absurd ((nI_leI (a := 5) (b := w) (by omega) (by omega)).mp q__) (by omega))) (fun _ => ?_)
    refine r_aload_n 8 rfl 0 dX10_sayCell_7 rfl rfl ?_
    refine r_aload_n 9 rfl 0 dX10_sayCell_8 rfl rfl ?_
    refine r_iload_n 10 rfl 1 dX10_sayCell_9 rfl rfl ?_
    refine r_iload_n 11 rfl 2 dX10_sayCell_10 rfl rfl ?_
    refine q_V 14 0 0 rfl [.int (nI c), .int (nI w)] rfl dX10_sayCell_11 cl_X10_sayCell__X10_tellCell (lk_X10_155 rfl) im_X10_tellCell (ci := 10) rfl sl_X10__X10_tellCell rfl (Nat.le_of_ble_eq_true rfl) (fun _ _ => Nat.le_of_ble_eq_true rfl) rfl rfl (Nat.le_of_ble_eq_true rfl) (Nat.le_of_ble_eq_true rfl) ?_
    refine c_tce hI'.2.1 hc (by omega) (fun m2 _ hag2 => (k_i ?_))
    rw [e40]
    refine r_i2l 15 rfl dX10_sayCell_14 ?_
    refine q_V 18 0 0 rfl [.long ((TC D (m 10 c) c w).toInt64)] rfl dX10_sayCell_15 cl_X10_sayCell__X10_say (lk_X10_252 rfl) im_X10_say (ci := 10) rfl sl_X10__X10_say rfl (Nat.le_of_ble_eq_true rfl) (fun _ _ => Nat.le_of_ble_eq_true rfl) rfl rfl (Nat.le_of_ble_eq_true rfl) (Nat.le_of_ble_eq_true rfl) ?_
    refine c_sayx (k_v ?_)
    refine r_iinc 21 rfl (nI (w + 1)) [some (.ref 37), some (.int (nI c)), some (.int (nI (w + 1)))] dX10_sayCell_18 rfl (nI_1 _) (by decide) rfl ?_
    refine r_goto 2 dX10_sayCell_21 rfl ?_
    exact ih (w + 1) (by omega) m2 (fun j hj => by rw [hag2 42 (by decide)]; exact h42 j hj) (ag_t hag hag2 (by decide))

set_option maxHeartbeats 400000 in
set_option maxRecDepth 20000 in
theorem lp_sc2 {Q : am_P} {z : am_Z} {m : Nat → Nat → Int32} {n : Nat} {i : Nat} {D K : Nat → Nat → Nat} (hI : IV i z m n D K) (hB : BD D 100) {c : Nat} (hc : c < 8) {x : Int64} (k : ∀ m', (∀ j, j < 42 → m' 42 j = m 42 j) → ag [42, 43, 44, 45, 47] m m' → Q none (wd (zh z (dg (fun p => nI (rv D c p)) x 3)) m') n) : ∀ (d p : Nat), p + d = 3 → ∀ m', (∀ j, j < 42 → m' 42 j = m 42 j) → ag [42, 43, 44, 45, 47] m m' → AW mX10_sayCell Q 26 [some (.ref 37), some (.int (nI c)), some (.int (nI p))] [] (wd (zh z (dg (fun p => nI (rv D c p)) x p)) m') n 0 0 := by
  intro d
  induction d with
  | zero =>
    intro p hp m' h42 hag
    obtain rfl : p = 3 := by omega
    refine r_iload_n 27 rfl 2 dX10_sayCell_26 rfl rfl ?_
    refine r_iconst 28 rfl 3 dX10_sayCell_27 rfl ?_
    refine r_icmp_ge 31 48 rfl dX10_sayCell_28 rfl (fun _ => ?_) (fun q__ => absurd ((nI_leI (a := 3) (b := 3) (by omega) (by omega)).mpr (by omega)) q__)
    refine r_return rfl dX10_sayCell_48 (Nat.le_of_ble_eq_true rfl) (Nat.le_of_ble_eq_true rfl) ?_
    exact k m' h42 hag
  | succ d ih =>
    intro p hp m' h42 hag
    have hI' := IV_dg hI h42 hag
    refine r_iload_n 27 rfl 2 dX10_sayCell_26 rfl rfl ?_
    refine r_iconst 28 rfl 3 dX10_sayCell_27 rfl ?_
    refine r_icmp_ge 31 48 rfl dX10_sayCell_28 rfl (fun q__ => absurd q__ (fun q__ => absurd ((nI_leI (a := 3) (b := p) (by omega) (by omega)).mp q__) (by omega))) (fun _ => ?_)
    refine r_aload_n 32 rfl 0 dX10_sayCell_31 rfl rfl ?_
    refine r_aload_n 33 rfl 0 dX10_sayCell_32 rfl rfl ?_
    refine r_iload_n 34 rfl 1 dX10_sayCell_33 rfl rfl ?_
    refine r_iload_n 35 rfl 2 dX10_sayCell_34 rfl rfl ?_
    refine q_V 38 0 0 rfl [.int (nI c), .int (nI p)] rfl dX10_sayCell_35 cl_X10_sayCell__X10_holdOf (lk_X10_196 rfl) im_X10_holdOf (ci := 10) rfl sl_X10__X10_holdOf rfl (Nat.le_of_ble_eq_true rfl) (fun _ _ => Nat.le_of_ble_eq_true rfl) rfl rfl (Nat.le_of_ble_eq_true rfl) (Nat.le_of_ble_eq_true rfl) ?_
    refine c_holdOf hI'.2.1 hB hc (by omega) (fun m2 g42 hag2 => (k_i ?_))
    refine r_i2l 39 rfl dX10_sayCell_38 ?_
    refine q_V 42 0 0 rfl [.long ((nI (rv D c p)).toInt64)] rfl dX10_sayCell_39 cl_X10_sayCell__X10_say (lk_X10_252 rfl) im_X10_say (ci := 10) rfl sl_X10__X10_say rfl (Nat.le_of_ble_eq_true rfl) (fun _ _ => Nat.le_of_ble_eq_true rfl) rfl rfl (Nat.le_of_ble_eq_true rfl) (Nat.le_of_ble_eq_true rfl) ?_
    refine c_sayx (k_v ?_)
    refine r_iinc 45 rfl (nI (p + 1)) [some (.ref 37), some (.int (nI c)), some (.int (nI (p + 1)))] dX10_sayCell_42 rfl (nI_1 _) (by decide) rfl ?_
    refine r_goto 26 dX10_sayCell_45 rfl ?_
    exact ih (p + 1) (by omega) m2 (fun j hj => (g42 j hj).trans (h42 j hj)) (ag_t hag hag2 (by decide))

set_option maxHeartbeats 400000 in
set_option maxRecDepth 20000 in
theorem c_sayCell {Q : am_P} {z : am_Z} {m : Nat → Nat → Int32} {n : Nat} {i : Nat} {D K : Nat → Nat → Nat} (hI : IV i z m n D K) (hB : BD D 100) {c : Nat} (hc : c < 8) {x : Int64} (k : ∀ m', (∀ j, j < 42 → m' 42 j = m 42 j) → ag [42, 43, 44, 45, 47] m m' → Q none (wd (zh z (dg (fun p => nI (rv D c p)) (dg (fun w => TC D (m 10 c) c w) x 5) 3)) m') n) : AW mX10_sayCell Q 0 (am_ent (am_l mX10_sayCell) [.ref 37, .int (nI c)]) [] (wd (zh z x) m) n 0 0 := by
  show AW _ _ 0 [some (.ref 37), some (.int (nI c)), none] [] _ _ 0 0
  refine r_iconst 1 rfl 0 dX10_sayCell_0 rfl ?_
  refine r_istore_n 2 rfl 2 [some (.ref 37), some (.int (nI c)), some (.int 0)] dX10_sayCell_1 rfl (by decide) rfl ?_
  refine lp_sc1 (x := x) hI hc (fun m1 g1 hag1 => ?_) 5 0 rfl m (fun _ _ => rfl) (ag_r _ _)
  have hI1 := IV_dg hI g1 hag1
  generalize hy : dg (fun w => TC D (m 10 c) c w) x 5 = y
  rw [hy] at k
  refine r_iconst 25 rfl 0 dX10_sayCell_24 rfl ?_
  refine r_istore_n 26 rfl 2 [some (.ref 37), some (.int (nI c)), some (.int 0)] dX10_sayCell_25 rfl (by decide) rfl ?_
  exact lp_sc2 (x := y) hI1 hB hc (fun m2 g2 hag2 => k m2 (fun j hj => (g2 j hj).trans (g1 j hj)) (ag_t hag1 hag2 (by decide))) 3 0 rfl m1 (fun _ _ => rfl) (ag_r _ _)

set_option maxHeartbeats 400000 in
set_option maxRecDepth 20000 in
theorem lp_me1 {Q : am_P} {z : am_Z} {m : Nat → Nat → Int32} {n : Nat} {i : Nat} {D K : Nat → Nat → Nat} (hI : IV i z m n D K) (hB : BD D 100) (hf1 : 1 ≤ D 7 0) {x : Int64} (kx : ∀ m', (∀ j, j < 42 → m' 42 j = m 42 j) → ag [42, 43, 44, 45, 47] m m' → AW mX10_digest Q 33 [some (.ref 37), none, none] [] (wd (zh z (dgC D (m 10) x 8)) m') n 0 0) : ∀ (d c : Nat), c + d = 8 → ∀ m', (∀ j, j < 42 → m' 42 j = m 42 j) → ag [42, 43, 44, 45, 47] m m' → AW mX10_digest Q 9 [some (.ref 37), some (.int (nI c)), none] [] (wd (zh z (dgC D (m 10) x c)) m') n 0 0 := by
  intro d
  induction d with
  | zero =>
    intro c hc m' h42 hag
    obtain rfl : c = 8 := by omega
    refine r_iload_n 10 rfl 1 dX10_digest_9 rfl rfl ?_
    refine r_bipush 12 rfl 8 dX10_digest_10 (by decide) ?_
    refine r_icmp_ge 15 33 rfl dX10_digest_12 rfl (fun _ => ?_) (fun q__ => absurd ((nI_leI (a := 8) (b := 8) (by omega) (by omega)).mpr (by omega)) q__)
    refine AW.drop 1 [some (.ref 37), none, none] rfl ?_
    exact kx m' h42 hag
  | succ d ih =>
    intro c hc m' h42 hag
    have hI' := IV_dg hI h42 hag
    have e10 : m' 10 = m 10 := hag 10 (by decide)
    refine r_iload_n 10 rfl 1 dX10_digest_9 rfl rfl ?_
    refine r_bipush 12 rfl 8 dX10_digest_10 (by decide) ?_
    refine r_icmp_ge 15 33 rfl dX10_digest_12 rfl (fun q__ => absurd q__ (fun q__ => absurd ((nI_leI (a := 8) (b := c) (by omega) (by omega)).mp q__) (by omega))) (fun _ => ?_)
    refine r_aload_n 16 rfl 0 dX10_digest_15 rfl rfl ?_
    refine q_V 19 0 0 rfl [] rfl dX10_digest_16 cl_X10_digest__X10_lacks (lk_X10_109 rfl) im_X10_lacks (ci := 10) rfl sl_X10__X10_lacks rfl (Nat.le_of_ble_eq_true rfl) (fun _ _ => Nat.le_of_ble_eq_true rfl) rfl rfl (Nat.le_of_ble_eq_true rfl) (Nat.le_of_ble_eq_true rfl) ?_
    refine c_lacks_f hI'.2.1.2.1 hf1 hI'.2.1.2.2.1 (k_i ?_)
    refine r_if_ne 22 33 rfl dX10_digest_19 rfl (fun q__ => absurd (by decide) q__) (fun _ => ?_)
    refine r_aload_n 23 rfl 0 dX10_digest_22 rfl rfl ?_
    refine r_iload_n 24 rfl 1 dX10_digest_23 rfl rfl ?_
    refine q_V 27 0 0 rfl [.int (nI c)] rfl dX10_digest_24 cl_X10_digest__X10_sayCell (lk_X10_258 rfl) im_X10_sayCell (ci := 10) rfl sl_X10__X10_sayCell rfl (Nat.le_of_ble_eq_true rfl) (fun _ _ => Nat.le_of_ble_eq_true rfl) rfl rfl (Nat.le_of_ble_eq_true rfl) (Nat.le_of_ble_eq_true rfl) ?_
    refine c_sayCell hI' hB (by omega) (fun m2 g42 hag2 => (k_v ?_))
    rw [e10]
    refine r_iinc 30 rfl (nI (c + 1)) [some (.ref 37), some (.int (nI (c + 1))), none] dX10_digest_27 rfl (nI_1 _) (by decide) rfl ?_
    refine r_goto 9 dX10_digest_30 rfl ?_
    exact ih (c + 1) (by omega) m2 (fun j hj => (g42 j hj).trans (h42 j hj)) (ag_t hag hag2 (by decide))

set_option maxHeartbeats 400000 in
set_option maxRecDepth 20000 in
theorem lp_me2 {Q : am_P} {z : am_Z} {m : Nat → Nat → Int32} {n : Nat} {i : Nat} {D K : Nat → Nat → Nat} (hI : IV i z m n D K) {s : Nat} (hs : s < D 7 1) {x : Int64} (kx : AW mX10_digest Q 68 [some (.ref 37), some (.int (nI s)), none] [] (wd (zh z (dg (fun w => nI (TS D s w)) x 8)) m) n 0 0) : ∀ (d w : Nat), w + d = 8 → ∀ m', m' = m → AW mX10_digest Q 45 [some (.ref 37), some (.int (nI s)), some (.int (nI w))] [] (wd (zh z (dg (fun w => nI (TS D s w)) x w)) m') n 0 0 := by
  intro d
  induction d with
  | zero =>
    intro w hw m' hmm
    obtain rfl : w = 8 := by omega
    obtain rfl : m' = m := hmm
    refine r_iload_n 46 rfl 2 dX10_digest_45 rfl rfl ?_
    refine r_bipush 48 rfl 8 dX10_digest_46 (by decide) ?_
    refine r_icmp_ge 51 68 rfl dX10_digest_48 rfl (fun _ => ?_) (fun q__ => absurd ((nI_leI (a := 8) (b := 8) (by omega) (by omega)).mpr (by omega)) q__)
    refine AW.drop 2 [some (.ref 37), some (.int (nI s)), none] rfl ?_
    exact kx
  | succ d ih =>
    intro w hw m' hmm
    refine r_iload_n 46 rfl 2 dX10_digest_45 rfl rfl ?_
    refine r_bipush 48 rfl 8 dX10_digest_46 (by decide) ?_
    refine r_icmp_ge 51 68 rfl dX10_digest_48 rfl (fun q__ => absurd q__ (fun q__ => absurd ((nI_leI (a := 8) (b := w) (by omega) (by omega)).mp q__) (by omega))) (fun _ => ?_)
    refine r_aload_n 52 rfl 0 dX10_digest_51 rfl rfl ?_
    refine r_aload_n 53 rfl 0 dX10_digest_52 rfl rfl ?_
    refine r_iload_n 54 rfl 1 dX10_digest_53 rfl rfl ?_
    refine r_iload_n 55 rfl 2 dX10_digest_54 rfl rfl ?_
    refine q_V 58 0 0 rfl [.int (nI s), .int (nI w)] rfl dX10_digest_55 cl_X10_digest__X10_tell (lk_X10_170 rfl) im_X10_tell (ci := 10) rfl sl_X10__X10_tell rfl (Nat.le_of_ble_eq_true rfl) (fun _ _ => Nat.le_of_ble_eq_true rfl) rfl rfl (Nat.le_of_ble_eq_true rfl) (Nat.le_of_ble_eq_true rfl) ?_
    refine c_tel (hmm ▸ hI.2.1) hs (by omega) (k_i ?_)
    refine r_i2l 59 rfl dX10_digest_58 ?_
    refine q_V 62 0 0 rfl [.long ((nI (TS D s w)).toInt64)] rfl dX10_digest_59 cl_X10_digest__X10_say (lk_X10_252 rfl) im_X10_say (ci := 10) rfl sl_X10__X10_say rfl (Nat.le_of_ble_eq_true rfl) (fun _ _ => Nat.le_of_ble_eq_true rfl) rfl rfl (Nat.le_of_ble_eq_true rfl) (Nat.le_of_ble_eq_true rfl) ?_
    refine c_sayx (k_v ?_)
    refine r_iinc 65 rfl (nI (w + 1)) [some (.ref 37), some (.int (nI s)), some (.int (nI (w + 1)))] dX10_digest_62 rfl (nI_1 _) (by decide) rfl ?_
    refine r_goto 45 dX10_digest_65 rfl ?_
    exact ih (w + 1) (by omega) m' hmm

set_option maxHeartbeats 400000 in
set_option maxRecDepth 20000 in
theorem lp_me3 {Q : am_P} {z : am_Z} {m : Nat → Nat → Int32} {n : Nat} {i : Nat} {D K : Nat → Nat → Nat} (hI : IV i z m n D K) {x : Int64} (kx : AW mX10_digest Q 74 [some (.ref 37), none, none] [] (wd (zh z (dgS D x (D 7 1))) m) n 0 0) : ∀ (d s : Nat), s + d = D 7 1 → ∀ m', m' = m → AW mX10_digest Q 35 [some (.ref 37), some (.int (nI s)), none] [] (wd (zh z (dgS D x s)) m') n 0 0 := by
  intro d
  induction d with
  | zero =>
    intro s hs m' hmm
    obtain rfl : s = D 7 1 := by omega
    obtain rfl : m' = m := hmm
    have hn7 := hI.2.1.2.2.2.2.2.1
    refine r_iload_n 36 rfl 1 dX10_digest_35 rfl rfl ?_
    refine r_aload_n 37 rfl 0 dX10_digest_36 rfl rfl ?_
    refine r_getf (v := .int ((m' 37) 10)) (k := 10) 40 rfl dX10_digest_37 (gf_X10_95_10 rfl) rfl rfl ?_
    rw [show (m' 37) 10 = nI (D 7 1) from hI.2.1.2.2.2.2.1]
    refine r_icmp_ge 43 74 rfl dX10_digest_40 rfl (fun _ => ?_) (fun q__ => absurd ((nI_leI (a := (D 7 1)) (b := (D 7 1)) (by omega) (by omega)).mpr (by omega)) q__)
    refine AW.drop 1 [some (.ref 37), none, none] rfl ?_
    exact kx
  | succ d ih =>
    intro s hs m' hmm
    obtain rfl : m' = m := hmm
    have hn7 := hI.2.1.2.2.2.2.2.1
    refine r_iload_n 36 rfl 1 dX10_digest_35 rfl rfl ?_
    refine r_aload_n 37 rfl 0 dX10_digest_36 rfl rfl ?_
    refine r_getf (v := .int ((m' 37) 10)) (k := 10) 40 rfl dX10_digest_37 (gf_X10_95_10 rfl) rfl rfl ?_
    rw [show (m' 37) 10 = nI (D 7 1) from hI.2.1.2.2.2.2.1]
    refine r_icmp_ge 43 74 rfl dX10_digest_40 rfl (fun q__ => absurd q__ (fun q__ => absurd ((nI_leI (a := (D 7 1)) (b := s) (by omega) (by omega)).mp q__) (by omega))) (fun _ => ?_)
    refine r_iconst 44 rfl 0 dX10_digest_43 rfl ?_
    refine r_istore_n 45 rfl 2 [some (.ref 37), some (.int (nI s)), some (.int 0)] dX10_digest_44 rfl (by decide) rfl ?_
    refine lp_me2 (x := dgS D x s) hI (by omega) ?_ 8 0 rfl _ rfl
    refine r_iinc 71 rfl (nI (s + 1)) [some (.ref 37), some (.int (nI (s + 1))), none] dX10_digest_68 rfl (nI_1 _) (by decide) rfl ?_
    refine r_goto 35 dX10_digest_71 rfl ?_
    exact ih (s + 1) (by omega) _ rfl

set_option maxHeartbeats 400000 in
set_option maxRecDepth 20000 in
theorem lp_me4 {Q : am_P} {z : am_Z} {m : Nat → Nat → Int32} {n : Nat} {pm : Nat} (hpm : m 37 1 = nI pm) (hp14 : pm ≤ 14) {x : Int64} (kx : AW mX10_digest Q 121 [some (.ref 37), none, none] [] (wd (zh z (dg (m 38) x pm)) m) n 0 0) : ∀ (d j : Nat), j + d = pm → ∀ m', m' = m → AW mX10_digest Q 96 [some (.ref 37), some (.int (nI j)), none] [] (wd (zh z (dg (m 38) x j)) m') n 0 0 := by
  intro d
  induction d with
  | zero =>
    intro j hj m' hmm
    obtain rfl : j = pm := by omega
    obtain rfl : m' = m := hmm
    refine r_iload_n 97 rfl 1 dX10_digest_96 rfl rfl ?_
    refine r_aload_n 98 rfl 0 dX10_digest_97 rfl rfl ?_
    refine r_getf (v := .int ((m' 37) 1)) (k := 1) 101 rfl dX10_digest_98 (gf_X10_68_10 rfl) rfl rfl ?_
    rw [show (m' 37) 1 = nI j from hpm]
    refine r_icmp_ge 104 121 rfl dX10_digest_101 rfl (fun _ => ?_) (fun q__ => absurd ((nI_leI (a := j) (b := j) (by omega) (by omega)).mpr (by omega)) q__)
    refine AW.drop 1 [some (.ref 37), none, none] rfl ?_
    exact kx
  | succ d ih =>
    intro j hj m' hmm
    obtain rfl : m' = m := hmm
    refine r_iload_n 97 rfl 1 dX10_digest_96 rfl rfl ?_
    refine r_aload_n 98 rfl 0 dX10_digest_97 rfl rfl ?_
    refine r_getf (v := .int ((m' 37) 1)) (k := 1) 101 rfl dX10_digest_98 (gf_X10_68_10 rfl) rfl rfl ?_
    rw [show (m' 37) 1 = nI pm from hpm]
    refine r_icmp_ge 104 121 rfl dX10_digest_101 rfl (fun q__ => absurd q__ (fun q__ => absurd ((nI_leI (a := pm) (b := j) (by omega) (by omega)).mp q__) (by omega))) (fun _ => ?_)
    refine r_aload_n 105 rfl 0 dX10_digest_104 rfl rfl ?_
    refine r_aload_n 106 rfl 0 dX10_digest_105 rfl rfl ?_
    refine r_getf (v := .ref 38) (k := 0) 109 rfl dX10_digest_106 (gf_X10_7_10 rfl) rfl rfl ?_
    refine r_iload_n 110 rfl 1 dX10_digest_109 rfl rfl ?_
    refine r_iald (f := m' 38) 111 rfl j dX10_digest_110 rfl rfl (by omega) (by decide) ?_
    refine r_i2l 112 rfl dX10_digest_111 ?_
    refine q_V 115 0 0 rfl [.long (((m' 38) j).toInt64)] rfl dX10_digest_112 cl_X10_digest__X10_say (lk_X10_252 rfl) im_X10_say (ci := 10) rfl sl_X10__X10_say rfl (Nat.le_of_ble_eq_true rfl) (fun _ _ => Nat.le_of_ble_eq_true rfl) rfl rfl (Nat.le_of_ble_eq_true rfl) (Nat.le_of_ble_eq_true rfl) ?_
    refine c_sayx (k_v ?_)
    refine r_iinc 118 rfl (nI (j + 1)) [some (.ref 37), some (.int (nI (j + 1))), none] dX10_digest_115 rfl (nI_1 _) (by decide) rfl ?_
    refine r_goto 96 dX10_digest_118 rfl ?_
    exact ih (j + 1) (by omega) _ rfl

set_option maxHeartbeats 400000 in
set_option maxRecDepth 20000 in
theorem lp_me5 {Q : am_P} {z : am_Z} {m : Nat → Nat → Int32} {n : Nat} {i : Nat} {D K : Nat → Nat → Nat} (hI : IV i z m n D K) {x : Int64} (k : ∀ m', (∀ j, j < 42 → m' 42 j = m 42 j) → ag [42, 43, 44, 45, 47] m m' → Q (some (.long (dg (TA D (m 11)) x 16))) (wd (zh z (dg (TA D (m 11)) x 16)) m') n) : ∀ (d w : Nat), w + d = 16 → ∀ m', (∀ j, j < 42 → m' 42 j = m 42 j) → ag [42, 43, 44, 45, 47] m m' → AW mX10_digest Q 123 [some (.ref 37), some (.int (nI w)), none] [] (wd (zh z (dg (TA D (m 11)) x w)) m') n 0 0 := by
  intro d
  induction d with
  | zero =>
    intro w hw m' h42 hag
    obtain rfl : w = 16 := by omega
    refine r_iload_n 124 rfl 1 dX10_digest_123 rfl rfl ?_
    refine r_bipush 126 rfl 16 dX10_digest_124 (by decide) ?_
    refine r_icmp_ge 129 145 rfl dX10_digest_126 rfl (fun _ => ?_) (fun q__ => absurd ((nI_leI (a := 16) (b := 16) (by omega) (by omega)).mpr (by omega)) q__)
    refine r_aload_n 146 rfl 0 dX10_digest_145 rfl rfl ?_
    refine r_getf (v := .long (dg (TA D (m 11)) x 16)) (k := 33) 149 rfl dX10_digest_146 (gf_X10_248_10 rfl) rfl rfl ?_
    refine r_lreturn rfl dX10_digest_149 (Nat.le_of_ble_eq_true rfl) (Nat.le_of_ble_eq_true rfl) ?_
    exact k m' h42 hag
  | succ d ih =>
    intro w hw m' h42 hag
    have hI' := IV_dg hI h42 hag
    have e11 : m' 11 = m 11 := hag 11 (by decide)
    refine r_iload_n 124 rfl 1 dX10_digest_123 rfl rfl ?_
    refine r_bipush 126 rfl 16 dX10_digest_124 (by decide) ?_
    refine r_icmp_ge 129 145 rfl dX10_digest_126 rfl (fun q__ => absurd q__ (fun q__ => absurd ((nI_leI (a := 16) (b := w) (by omega) (by omega)).mp q__) (by omega))) (fun _ => ?_)
    refine r_aload_n 130 rfl 0 dX10_digest_129 rfl rfl ?_
    refine r_aload_n 131 rfl 0 dX10_digest_130 rfl rfl ?_
    refine r_iload_n 132 rfl 1 dX10_digest_131 rfl rfl ?_
    refine q_V 135 0 0 rfl [.int (nI w)] rfl dX10_digest_132 cl_X10_digest__X10_countOf (lk_X10_243 rfl) im_X10_countOf (ci := 10) rfl sl_X10__X10_countOf rfl (Nat.le_of_ble_eq_true rfl) (fun _ _ => Nat.le_of_ble_eq_true rfl) rfl rfl (Nat.le_of_ble_eq_true rfl) (Nat.le_of_ble_eq_true rfl) ?_
    refine c_cof (IV_zh (x := dg (TA D (m 11)) x w) hI') (by omega) (fun m2 hag2 => (k_i ?_))
    rw [e11]
    refine r_i2l 136 rfl dX10_digest_135 ?_
    refine q_V 139 0 0 rfl [.long ((TA D (m 11) w).toInt64)] rfl dX10_digest_136 cl_X10_digest__X10_say (lk_X10_252 rfl) im_X10_say (ci := 10) rfl sl_X10__X10_say rfl (Nat.le_of_ble_eq_true rfl) (fun _ _ => Nat.le_of_ble_eq_true rfl) rfl rfl (Nat.le_of_ble_eq_true rfl) (Nat.le_of_ble_eq_true rfl) ?_
    refine c_sayx (k_v ?_)
    refine r_iinc 142 rfl (nI (w + 1)) [some (.ref 37), some (.int (nI (w + 1))), none] dX10_digest_139 rfl (nI_1 _) (by decide) rfl ?_
    refine r_goto 123 dX10_digest_142 rfl ?_
    exact ih (w + 1) (by omega) m2 (fun j hj => by rw [hag2 42 (by decide)]; exact h42 j hj) (ag_t hag hag2 (by decide))

set_option maxHeartbeats 400000 in
set_option maxRecDepth 20000 in
theorem lp_me6 {Q : am_P} {z : am_Z} {m : Nat → Nat → Int32} {n : Nat} {i : Nat} {D K : Nat → Nat → Nat} (hI : IV i z m n D K) {x : Int64} (k : ∀ m', (∀ j, j < 42 → m' 42 j = m 42 j) → ag [42, 43, 44, 45, 47] m m' → Q (some (.long (dg (TA D (m 11)) (dg (m 38) (31 * dgS D x (D 7 1) + (nI (bd_n (WH D) 16)).toInt64) (D 8 0)) 16))) (wd (zh z (dg (TA D (m 11)) (dg (m 38) (31 * dgS D x (D 7 1) + (nI (bd_n (WH D) 16)).toInt64) (D 8 0)) 16)) m') n) : AW mX10_digest Q 33 [some (.ref 37), none, none] [] (wd (zh z (x)) m) n 0 0 := by
  refine r_iconst 34 rfl 0 dX10_digest_33 rfl ?_
  refine r_istore_n 35 rfl 1 [some (.ref 37), some (.int 0), none] dX10_digest_34 rfl (by decide) rfl ?_
  refine lp_me3 (x := x) hI ?_ (D 7 1) 0 (by omega) m rfl
  obtain ⟨h9, h10, hnz, hpg, hop, hnw, hct, him⟩ := id hI
  by_cases hf : D 7 0 = 0
  · have h0 : D 7 1 = 0 := by have := h9.2.2.2.1; omega
    rw [bd_0 h0] at k
    refine r_aload_n 75 rfl 0 dX10_digest_74 rfl rfl ?_
    refine r_aload_n 76 rfl 0 dX10_digest_75 rfl rfl ?_
    refine q_V 79 0 0 rfl [] rfl dX10_digest_76 cl_X10_digest__X10_lacks (lk_X10_109 rfl) im_X10_lacks (ci := 10) rfl sl_X10__X10_lacks rfl (Nat.le_of_ble_eq_true rfl) (fun _ _ => Nat.le_of_ble_eq_true rfl) rfl rfl (Nat.le_of_ble_eq_true rfl) (Nat.le_of_ble_eq_true rfl) ?_
    refine c_lacks_t (by rw [h10.2.1, hf]) (k_i ?_)
    refine r_if_eq 82 86 rfl dX10_digest_79 rfl (fun q__ => absurd q__ (by decide)) (fun _ => ?_)
    refine r_lconst 83 rfl 0 dX10_digest_82 rfl ?_
    refine r_goto 91 dX10_digest_83 rfl ?_
    refine q_V 94 0 0 rfl [.long 0] rfl dX10_digest_91 cl_X10_digest__X10_say (lk_X10_252 rfl) im_X10_say (ci := 10) rfl sl_X10__X10_say rfl (Nat.le_of_ble_eq_true rfl) (fun _ _ => Nat.le_of_ble_eq_true rfl) rfl rfl (Nat.le_of_ble_eq_true rfl) (Nat.le_of_ble_eq_true rfl) ?_
    refine c_sayx (k_v ?_)
    refine r_iconst 95 rfl 0 dX10_digest_94 rfl ?_
    refine r_istore_n 96 rfl 1 [some (.ref 37), some (.int 0), none] dX10_digest_95 rfl (by decide) rfl ?_
    refine lp_me4 (x := 31 * dgS D x (D 7 1) + 0) hpg.2.1 hpg.2.2.1 ?_ (D 8 0) 0 (by omega) _ rfl
    refine r_iconst 122 rfl 0 dX10_digest_121 rfl ?_
    refine r_istore_n 123 rfl 1 [some (.ref 37), some (.int 0), none] dX10_digest_122 rfl (by decide) rfl ?_
    exact lp_me5 (x := dg (m 38) (31 * dgS D x (D 7 1) + 0) (D 8 0)) hI (fun m3 g3 hag3 => k m3 g3 hag3) 16 0 rfl _ (fun _ _ => rfl) (ag_r _ _)
  · refine r_aload_n 75 rfl 0 dX10_digest_74 rfl rfl ?_
    refine r_aload_n 76 rfl 0 dX10_digest_75 rfl rfl ?_
    refine q_V 79 0 0 rfl [] rfl dX10_digest_76 cl_X10_digest__X10_lacks (lk_X10_109 rfl) im_X10_lacks (ci := 10) rfl sl_X10__X10_lacks rfl (Nat.le_of_ble_eq_true rfl) (fun _ _ => Nat.le_of_ble_eq_true rfl) rfl rfl (Nat.le_of_ble_eq_true rfl) (Nat.le_of_ble_eq_true rfl) ?_
    refine c_lacks_f h10.2.1 (by omega) h10.2.2.1 (k_i ?_)
    refine r_if_eq 82 86 rfl dX10_digest_79 rfl (fun _ => ?_) (fun q__ => absurd (by decide) q__)
    refine r_aload_n 87 rfl 0 dX10_digest_86 rfl rfl ?_
    refine q_V 90 0 0 rfl [] rfl dX10_digest_87 cl_X10_digest__X10_bordersOf (lk_X10_158 rfl) im_X10_bordersOf (ci := 10) rfl sl_X10__X10_bordersOf rfl (Nat.le_of_ble_eq_true rfl) (fun _ _ => Nat.le_of_ble_eq_true rfl) rfl rfl (Nat.le_of_ble_eq_true rfl) (Nat.le_of_ble_eq_true rfl) ?_
    refine c_bordersOf h10 (fun m1 _ hag1 => (k_i ?_))
    have hI1 := IV_ag hI (ag_w hag1 (by decide))
    rw [show m 38 = m1 38 from (hag1 38 (by decide)).symm, show m 11 = m1 11 from (hag1 11 (by decide)).symm] at k
    refine r_i2l 91 rfl dX10_digest_90 ?_
    refine q_V 94 0 0 rfl [.long ((nI (bd_n (WH D) 16)).toInt64)] rfl dX10_digest_91 cl_X10_digest__X10_say (lk_X10_252 rfl) im_X10_say (ci := 10) rfl sl_X10__X10_say rfl (Nat.le_of_ble_eq_true rfl) (fun _ _ => Nat.le_of_ble_eq_true rfl) rfl rfl (Nat.le_of_ble_eq_true rfl) (Nat.le_of_ble_eq_true rfl) ?_
    refine c_sayx (k_v ?_)
    refine r_iconst 95 rfl 0 dX10_digest_94 rfl ?_
    refine r_istore_n 96 rfl 1 [some (.ref 37), some (.int 0), none] dX10_digest_95 rfl (by decide) rfl ?_
    refine lp_me4 (x := 31 * dgS D x (D 7 1) + (nI (bd_n (WH D) 16)).toInt64) hI1.2.2.2.1.2.1 hpg.2.2.1 ?_ (D 8 0) 0 (by omega) _ rfl
    refine r_iconst 122 rfl 0 dX10_digest_121 rfl ?_
    refine r_istore_n 123 rfl 1 [some (.ref 37), some (.int 0), none] dX10_digest_122 rfl (by decide) rfl ?_
    exact lp_me5 (x := dg (m1 38) (31 * dgS D x (D 7 1) + (nI (bd_n (WH D) 16)).toInt64) (D 8 0)) hI1 (fun m3 g3 hag3 => k m3 (fun j hj => (g3 j hj).trans (by rw [hag1 42 (by decide)])) (ag_t (ag_w hag1 (by decide)) hag3 (by decide))) 16 0 rfl _ (fun _ _ => rfl) (ag_r _ _)

set_option maxHeartbeats 400000 in
set_option maxRecDepth 20000 in
theorem c10_digest_t {Q : am_P} {z : am_Z} {m : Nat → Nat → Int32} {n : Nat} {i : Nat} {D K : Nat → Nat → Nat} (hI : IV i z m n D K) (hf : ¬ D 7 0 = 0) (hB : BD D 100) (k : ∀ x m', (∀ j, j < 42 → m' 42 j = m 42 j) → ag [42, 43, 44, 45, 47] m m' → Q (some (.long (dgT D (m 10) (m 38) (m 11)))) (wd (zh z x) m') n) : AW mX10_digest Q 0 (am_ent (am_l mX10_digest) [.ref 37]) [] (wd z m) n 0 0 := by
  show AW _ _ 0 [some (.ref 37), none, none] [] _ _ 0 0
  refine r_aload_n 1 rfl 0 dX10_digest_0 rfl rfl ?_
  refine r_ldc2 4 rfl 811 dX10_digest_1 (cn_X10_256 rfl) ?_
  refine w_puth 7 rfl dX10_digest_4 (pf_X10_248_10 rfl) ?_
  refine r_iconst 8 rfl 0 dX10_digest_7 rfl ?_
  refine r_istore_n 9 rfl 1 [some (.ref 37), some (.int 0), none] dX10_digest_8 rfl (by decide) rfl ?_
  refine lp_me1 (x := 811) hI hB (by omega) (fun m1 g1 hag1 => ?_) 8 0 rfl m (fun _ _ => rfl) (ag_r _ _)
  have hI1 := IV_dg hI g1 hag1
  unfold dgT dg1 at k
  rw [if_neg hf, show m 38 = m1 38 from (hag1 38 (by decide)).symm, show m 11 = m1 11 from (hag1 11 (by decide)).symm] at k
  exact lp_me6 (x := dgC D (m 10) 811 8) hI1 (fun m2 g2 hag2 => k _ m2 (fun j hj => (g2 j hj).trans (g1 j hj)) (ag_t hag1 hag2 (by decide)))

set_option maxHeartbeats 400000 in
set_option maxRecDepth 20000 in
theorem c10_digest_f {Q : am_P} {z : am_Z} {m : Nat → Nat → Int32} {n : Nat} {i : Nat} {D K : Nat → Nat → Nat} (hI : IV i z m n D K) (hf : D 7 0 = 0) (k : ∀ x m', (∀ j, j < 42 → m' 42 j = m 42 j) → ag [42, 43, 44, 45, 47] m m' → Q (some (.long (dgT D (m 10) (m 38) (m 11)))) (wd (zh z x) m') n) : AW mX10_digest Q 0 (am_ent (am_l mX10_digest) [.ref 37]) [] (wd z m) n 0 0 := by
  show AW _ _ 0 [some (.ref 37), none, none] [] _ _ 0 0
  refine r_aload_n 1 rfl 0 dX10_digest_0 rfl rfl ?_
  refine r_ldc2 4 rfl 811 dX10_digest_1 (cn_X10_256 rfl) ?_
  refine w_puth 7 rfl dX10_digest_4 (pf_X10_248_10 rfl) ?_
  refine r_iconst 8 rfl 0 dX10_digest_7 rfl ?_
  refine r_istore_n 9 rfl 1 [some (.ref 37), some (.int 0), none] dX10_digest_8 rfl (by decide) rfl ?_
  refine r_iload_n 10 rfl 1 dX10_digest_9 rfl rfl ?_
  refine r_bipush 12 rfl 8 dX10_digest_10 (by decide) ?_
  refine r_icmp_ge 15 33 rfl dX10_digest_12 rfl (fun q__ => absurd q__ (by decide)) (fun _ => ?_)
  refine r_aload_n 16 rfl 0 dX10_digest_15 rfl rfl ?_
  refine q_V 19 0 0 rfl [] rfl dX10_digest_16 cl_X10_digest__X10_lacks (lk_X10_109 rfl) im_X10_lacks (ci := 10) rfl sl_X10__X10_lacks rfl (Nat.le_of_ble_eq_true rfl) (fun _ _ => Nat.le_of_ble_eq_true rfl) rfl rfl (Nat.le_of_ble_eq_true rfl) (Nat.le_of_ble_eq_true rfl) ?_
  refine c_lacks_t (by rw [hI.2.1.2.1, hf]) (k_i ?_)
  refine r_if_ne 22 33 rfl dX10_digest_19 rfl (fun _ => ?_) (fun q__ => absurd q__ (by decide))
  refine AW.drop 1 [some (.ref 37), none, none] rfl ?_
  unfold dgT dg1 at k
  rw [if_pos hf] at k
  exact lp_me6 (x := 811) hI (fun m2 g2 hag2 => k _ m2 g2 hag2)

def PL (i : Nat) (M : am_M) (As : List Value) : am_P := fun r h n => (∃ x : Int64, r = some (.long x)) ∧ (∃ fs, h 37 = .inr (.inr (10, fs))) ∧ ∀ Q2 : am_P, (∀ z m n D K, IV i z m n D K → Q2 r (wd z m) n) → AW M Q2 0 (am_ent (am_l M) As) [] h n 0 0
theorem PL_i {i : Nat} {M : am_M} {As : List Value} {z : am_Z} {m : Nat → Nat → Int32} {n : Nat} {x : Int64} (k : ∀ Q2 : am_P, (∀ z m n D K, IV i z m n D K → Q2 (some (.long x)) (wd z m) n) → AW M Q2 0 (am_ent (am_l M) As) [] (wd z m) n 0 0) : PL i M As (some (.long x)) (wd z m) n := ⟨⟨x, rfl⟩, ⟨_, rfl⟩, k⟩
theorem dgT_eq {D : Nat → Nat → Nat} {p p' t : Nat → Int32} {q : Nat → Int32} (h : ∀ j, j < D 8 0 → p j = p' j) : dgT D q p t = dgT D q p' t := by
  unfold dgT
  rw [dg_congr (f := p) (g := p') (D 8 0) h]

set_option maxHeartbeats 400000 in
set_option maxRecDepth 20000 in
theorem P_digest {i : Nat} {z : am_Z} {m : Nat → Nat → Int32} {n : Nat} {D K : Nat → Nat → Nat} (hI : IV i z m n D K) (hi : i + 5 ≤ 2560)  : AW mX9_digest (PL (i + 5) mX10_digest [.ref 37]) 0 (am_ent (am_l mX9_digest) [.ref 1]) [] (wd z m) n 0 0 := by
  obtain ⟨h9, h10, hnz, hpg, hop, hnw, hct, him⟩ := id hI
  have hB := BD_le (CT_BD hct h9) (show 100 ≤ 1000 by decide)
  have hp := hpg.2.2.2
  by_cases hf : D 7 0 = 0
  · refine c9_digest_f hI hf (fun m1 hag => PL_i (fun Q2 k => ?_))
    have hI1 := IV_ag hI (ag_w hag (by decide))
    rw [dgT_eq hp, ← show m1 38 = m 38 from hag 38 (by decide), ← show m1 10 = m 10 from hag 10 (by decide), ← show m1 11 = m 11 from hag 11 (by decide)] at k
    exact c10_digest_f hI1 hf (fun x m2 h42 hag2 => k _ _ _ _ _ (IV_zh (IV_mono (IV_dg hI1 h42 hag2) (by omega) hi)))
  · refine c9_digest_t hI hf hB (fun m1 hag => PL_i (fun Q2 k => ?_))
    have hI1 := IV_ag hI (ag_w hag (by decide))
    rw [dgT_eq hp, ← show m1 38 = m 38 from hag 38 (by decide), ← show m1 10 = m 10 from hag 10 (by decide), ← show m1 11 = m 11 from hag 11 (by decide)] at k
    exact c10_digest_t hI1 hf hB (fun x m2 h42 hag2 => k _ _ _ _ _ (IV_zh (IV_mono (IV_dg hI1 h42 hag2) (by omega) hi)))
