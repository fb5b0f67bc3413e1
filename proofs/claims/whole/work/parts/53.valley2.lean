set_option maxHeartbeats 4000000 in
set_option maxRecDepth 20000 in
theorem c9_valley_s1 {Q : am_P} {z : am_Z} {m : Nat → Nat → Int32} {n : Nat} {pm : Nat} (hpm : m 2 1 = nI pm) (hp : pm ≤ 14) (hne : ¬ pm = 11) (k : Q (some (.int (-103))) (wd z m) n) : AW mX9_valley Q 0 (am_ent (am_l mX9_valley) [.ref 1]) [] (wd z m) n 0 0 := by
  show AW _ _ 0 [some (.ref 1)] [] _ _ 0 0
  refine r_aload_n 1 rfl 0 dX9_valley_0 rfl rfl ?_
  refine r_getf (v := .ref 2) (k := 0) 4 rfl dX9_valley_1 (gf_X9_12_9 rfl) rfl rfl ?_
  refine q_V 7 0 0 rfl [] rfl dX9_valley_4 cl_X9_valley__X3_isValley (lk_X9_78 rfl) im_X3_isValley (ci := 3) rfl sl_X3__X3_isValley rfl (Nat.le_of_ble_eq_true rfl) (fun _ _ => Nat.le_of_ble_eq_true rfl) rfl rfl (Nat.le_of_ble_eq_true rfl) (Nat.le_of_ble_eq_true rfl) ?_
  refine c_isValley_f1 hpm hp hne (k_i ?_)
  refine r_if_ne 10 13 rfl dX9_valley_7 rfl (fun q__ => absurd (by decide) q__) (fun _ => ?_)
  refine r_bipush 12 rfl (-103) dX9_valley_10 (by decide) ?_
  refine r_ireturn rfl dX9_valley_12 (Nat.le_of_ble_eq_true rfl) (Nat.le_of_ble_eq_true rfl) ?_
  exact k

set_option maxHeartbeats 4000000 in
set_option maxRecDepth 20000 in
theorem c9_valley_s2 {Q : am_P} {z : am_Z} {m : Nat → Nat → Int32} {n : Nat} (hpm : m 2 1 = nI 11) (hw : ¬ pg_fw (m 3) 11 0 = 11) (k : Q (some (.int (-103))) (wd z m) n) : AW mX9_valley Q 0 (am_ent (am_l mX9_valley) [.ref 1]) [] (wd z m) n 0 0 := by
  show AW _ _ 0 [some (.ref 1)] [] _ _ 0 0
  refine r_aload_n 1 rfl 0 dX9_valley_0 rfl rfl ?_
  refine r_getf (v := .ref 2) (k := 0) 4 rfl dX9_valley_1 (gf_X9_12_9 rfl) rfl rfl ?_
  refine q_V 7 0 0 rfl [] rfl dX9_valley_4 cl_X9_valley__X3_isValley (lk_X9_78 rfl) im_X3_isValley (ci := 3) rfl sl_X3__X3_isValley rfl (Nat.le_of_ble_eq_true rfl) (fun _ _ => Nat.le_of_ble_eq_true rfl) rfl rfl (Nat.le_of_ble_eq_true rfl) (Nat.le_of_ble_eq_true rfl) ?_
  refine c_isValley_f2 hpm hw (k_i ?_)
  refine r_if_ne 10 13 rfl dX9_valley_7 rfl (fun q__ => absurd (by decide) q__) (fun _ => ?_)
  refine r_bipush 12 rfl (-103) dX9_valley_10 (by decide) ?_
  refine r_ireturn rfl dX9_valley_12 (Nat.le_of_ble_eq_true rfl) (Nat.le_of_ble_eq_true rfl) ?_
  exact k

set_option maxHeartbeats 4000000 in
set_option maxRecDepth 20000 in
theorem c9_valley_t {Q : am_P} {z : am_Z} {m : Nat → Nat → Int32} {n : Nat} (hn : 53 ≤ n) (hpm : m 2 1 = nI 11) (hw : pg_fw (m 3) 11 0 = 11) (hl : ∀ c, c < 8 → m 3 (pg_pl c) = 46 ∨ m 3 (pg_pl c) = 35 ∨ m 3 (pg_pl c) = 119) {fd : Nat} (hfd : m 3 10 = nI (48 + fd)) (hf3 : fd ≤ 3) {v : Nat} (hv : m 1 12 = nI v) (k : ∀ z' m', z'.2.1 = z.2.1 → m' 4 1 = nI (cnt0 (fun j => nI (gn (m 3 (pg_pl j)))) 8) → m' 4 2 = nI fd → (∀ j, j < 8 → m' 5 j = nI (gn (m 3 (pg_pl j)))) → m' 2 = upd (m 2) 1 0 → (m' 7 0 = 0 ∧ m' 7 3 = 0 ∧ m' 7 4 = 0 ∧ m' 7 5 = 0 ∧ m' 7 8 = 0) → (∀ j, j < 6 → m' 8 j = 0) → (∀ j, j < 6 → m' 9 j = 0) → (∀ j, j < 8 → m' 10 j = 0) → (∀ j, j < 3 → m' 11 j = 0) → (∀ j, j < 8 → m' 12 j = 0) → (∀ j, j < 8 → m' 13 j = 0) → m' 1 = upd (upd (m 1) 11 0) 12 (nI (v + 1)) → ag [1, 2, 4, 5, 7, 8, 9, 10, 11, 12, 13] m m' → Q (some (.int (nI (cnt0 (fun j => nI (gn (m 3 (pg_pl j)))) 8)))) (wd z' m') (n + 7)) : AW mX9_valley Q 0 (am_ent (am_l mX9_valley) [.ref 1]) [] (wd z m) n 0 0 := by
  show AW _ _ 0 [some (.ref 1)] [] _ _ 0 0
  refine r_aload_n 1 rfl 0 dX9_valley_0 rfl rfl ?_
  refine r_getf (v := .ref 2) (k := 0) 4 rfl dX9_valley_1 (gf_X9_12_9 rfl) rfl rfl ?_
  refine q_V 7 0 0 rfl [] rfl dX9_valley_4 cl_X9_valley__X3_isValley (lk_X9_78 rfl) im_X3_isValley (ci := 3) rfl sl_X3__X3_isValley rfl (Nat.le_of_ble_eq_true rfl) (fun _ _ => Nat.le_of_ble_eq_true rfl) rfl rfl (Nat.le_of_ble_eq_true rfl) (Nat.le_of_ble_eq_true rfl) ?_
  refine c_isValley_t hpm hw (k_i ?_)
  refine r_if_ne 10 13 rfl dX9_valley_7 rfl (fun _ => ?_) (fun q__ => absurd q__ (by decide))
  refine r_aload_n 14 rfl 0 dX9_valley_13 rfl rfl ?_
  refine r_getf (v := .ref 4) (k := 1) 17 rfl dX9_valley_14 (gf_X9_19_9 rfl) rfl rfl ?_
  refine r_aload_n 18 rfl 0 dX9_valley_17 rfl rfl ?_
  refine r_getf (v := .ref 2) (k := 0) 21 rfl dX9_valley_18 (gf_X9_12_9 rfl) rfl rfl ?_
  refine q_V 24 0 0 rfl [.ref 2] rfl dX9_valley_21 cl_X9_valley__X7_take (lk_X9_81 rfl) im_X7_take (ci := 7) rfl sl_X7__X7_take rfl (Nat.le_of_ble_eq_true rfl) (fun _ _ => Nat.le_of_ble_eq_true rfl) rfl rfl (Nat.le_of_ble_eq_true rfl) (Nat.le_of_ble_eq_true rfl) ?_
  refine c_take hl hfd hf3 (fun m1 t1 t2 t3 hag1 => (k_v ?_))
  refine r_aload_n 25 rfl 0 dX9_valley_24 rfl rfl ?_
  refine r_getf (v := .ref 2) (k := 0) 28 rfl dX9_valley_25 (gf_X9_12_9 rfl) rfl rfl ?_
  refine r_iconst 29 rfl 0 dX9_valley_28 rfl ?_
  refine w_putf 32 rfl (k := 1) (va_up m1 2 (upd (m1 2) 1 0)) dX9_valley_29 (pf_X9_70_3 rfl) (by decide) (by decide) rfl (Nat.le_of_ble_eq_true rfl) rfl ⟨rfl, rfl⟩ rfl ?_
  refine r_aload_n 33 rfl 0 dX9_valley_32 rfl rfl ?_
  refine r_getf (v := .ref 7) (k := 3) 36 rfl dX9_valley_33 (gf_X9_32_9 rfl) rfl rfl ?_
  refine r_new 39 rfl dX9_valley_36 (nf_X9_29 rfl) (Nat.le_of_ble_eq_true rfl) (Nat.le_of_ble_eq_true rfl) ?_
  refine r_dup 40 rfl dX9_valley_39 rfl ?_
  refine q_N 43 7 50 rfl [] rfl dX9_valley_40 cl_X9_valley__X5_init rfl (by decide +kernel) im_X5_init rfl rfl (Nat.le_of_ble_eq_true rfl) (fun _ _ => Nat.le_of_ble_eq_true rfl) rfl rfl (Nat.le_of_ble_eq_true rfl) (Nat.le_of_ble_eq_true rfl) ?_
  refine c_init5w (m := va_up m1 2 (upd (m1 2) 1 0)) hn (fun z1 y1 y2 y3 y4 o0 o1 o2 o3 o4 o5 o6 => (k_v ?_))
  refine q_V 46 7 50 rfl [.ref (n + 1)] rfl dX9_valley_43 cl_X9_valley__X5_copyFrom (lk_X9_85 rfl) im_X5_copyFrom (ci := 5) rfl sl_X5__X5_copyFrom rfl (Nat.le_of_ble_eq_true rfl) (fun _ _ => Nat.le_of_ble_eq_true rfl) rfl rfl (Nat.le_of_ble_eq_true rfl) (Nat.le_of_ble_eq_true rfl) ?_
  refine c_cf_7_q (q := n + 1) (by omega) o0 o1 o2 o3 o4 o5 o6 (fun m3 g0 g1 g2 g3 g4 g5 g6 hag3 => (k_v ?_))
  have e12 : m3 1 12 = nI v := by rw [hag3 1 (by decide), va_up_ne _ _ (by decide), hag1 1 (by decide)]; exact hv
  have e41 : m3 4 1 = nI (cnt0 (fun j => nI (gn (m 3 (pg_pl j)))) 8) := by rw [hag3 4 (by decide), va_up_ne _ _ (by decide)]; exact t1
  refine r_aload_n 47 rfl 0 dX9_valley_46 rfl rfl ?_
  refine r_iconst 48 rfl 0 dX9_valley_47 rfl ?_
  refine w_putf 51 rfl (k := 11) (va_up m3 1 (upd (m3 1) 11 0)) dX9_valley_48 (pf_X9_89_9 rfl) (by decide) (by decide) rfl (Nat.le_of_ble_eq_true rfl) rfl ⟨rfl, rfl⟩ rfl ?_
  refine r_aload_n 52 rfl 0 dX9_valley_51 rfl rfl ?_
  refine r_dup 53 rfl dX9_valley_52 rfl ?_
  refine r_getf (v := .int (m3 1 12)) (k := 12) 56 rfl dX9_valley_53 (gf_X9_93_9 rfl) rfl rfl ?_
  rw [show m3 1 12 = nI v from e12]
  refine r_iconst 57 rfl 1 dX9_valley_56 rfl ?_
  refine r_iadd 58 rfl dX9_valley_57 ?_
  rw [show (nI v) + 1 = nI (v + 1) from nI_add v 1]
  refine w_putf 61 rfl (k := 12) (va_up (va_up m3 1 (upd (m3 1) 11 0)) 1 (upd (upd (m3 1) 11 0) 12 (nI (v + 1)))) dX9_valley_58 (pf_X9_93_9 rfl) (by decide) (by decide) rfl (Nat.le_of_ble_eq_true rfl) rfl ⟨rfl, rfl⟩ rfl ?_
  refine r_aload_n 62 rfl 0 dX9_valley_61 rfl rfl ?_
  refine r_getf (v := .ref 4) (k := 1) 65 rfl dX9_valley_62 (gf_X9_19_9 rfl) rfl rfl ?_
  refine r_getf (v := .int ((m3 4) 1)) (k := 1) 68 rfl dX9_valley_65 (gf_X9_96_7 rfl) rfl rfl ?_
  rw [show (m3 4) 1 = nI (cnt0 (fun j => nI (gn (m 3 (pg_pl j)))) 8) from e41]
  refine r_ireturn rfl dX9_valley_68 (Nat.le_of_ble_eq_true rfl) (Nat.le_of_ble_eq_true rfl) ?_
  refine k z1 _ y2 e41 ?_ (fun j hj => ?_) ?_ g0 g1 g2 g3 g4 g5 g6 ?_ (fun x hx => ?_)
  · show m3 4 2 = _; rw [hag3 4 (by decide), va_up_ne _ _ (by decide)]; exact t2
  · show m3 5 j = _; rw [hag3 5 (by decide), va_up_ne _ _ (by decide)]; exact t3 j hj
  · show m3 2 = _; rw [hag3 2 (by decide), va_up_self, hag1 2 (by decide)]
  · rw [va_up_self, hag3 1 (by decide), va_up_ne _ _ (by decide), hag1 1 (by decide)]
  · have hx' := hx
    simp only [List.mem_cons, List.not_mem_nil, or_false, not_or] at hx'
    obtain ⟨x1, x2, x4, x5, x7, x8, x9, x10, x11, x12, x13⟩ := hx'
    rw [va_up_ne _ _ x1, va_up_ne _ _ x1, hag3 x (by simp [x7, x8, x9, x10, x11, x12, x13]), va_up_ne _ _ x2, hag1 x (by simp [x4, x5])]

set_option maxHeartbeats 4000000 in
set_option maxRecDepth 20000 in
theorem c10_valley_s1 {Q : am_P} {z : am_Z} {m : Nat → Nat → Int32} {n : Nat} {pm : Nat} (hpm : m 37 1 = nI pm) (hp : pm ≤ 14) (hne : ¬ pm = 11) (k : Q (some (.int (-103))) (wd z m) n) : AW mX10_valley Q 0 (am_ent (am_l mX10_valley) [.ref 37]) [] (wd z m) n 0 0 := by
  show AW _ _ 0 [some (.ref 37), none, none] [] _ _ 0 0
  refine r_aload_n 1 rfl 0 dX10_valley_0 rfl rfl ?_
  refine r_getf (v := .int ((m 37) 1)) (k := 1) 4 rfl dX10_valley_1 (gf_X10_68_10 rfl) rfl rfl ?_
  rw [show (m 37) 1 = nI pm from hpm]
  refine r_bipush 6 rfl 11 dX10_valley_4 (by decide) ?_
  refine r_icmp_ne 9 18 rfl dX10_valley_6 rfl (fun _ => ?_) (fun q__ => absurd q__ (fun q__ => absurd ((nI_eq (a := pm) (b := 11) (by omega) (by omega)).mp q__) (by omega)))
  refine r_bipush 20 rfl (-103) dX10_valley_18 (by decide) ?_
  refine r_ireturn rfl dX10_valley_20 (Nat.le_of_ble_eq_true rfl) (Nat.le_of_ble_eq_true rfl) ?_
  exact k

set_option maxHeartbeats 4000000 in
set_option maxRecDepth 20000 in
theorem c10_valley_s2 {Q : am_P} {z : am_Z} {m : Nat → Nat → Int32} {n : Nat} (hpm : m 37 1 = nI 11) (hw : ¬ pg_fw (m 38) 11 0 = 11) (k : Q (some (.int (-103))) (wd z m) n) : AW mX10_valley Q 0 (am_ent (am_l mX10_valley) [.ref 37]) [] (wd z m) n 0 0 := by
  show AW _ _ 0 [some (.ref 37), none, none] [] _ _ 0 0
  have hle := (pg_fw_le (m 38) 11 0).2
  refine r_aload_n 1 rfl 0 dX10_valley_0 rfl rfl ?_
  refine r_getf (v := .int ((m 37) 1)) (k := 1) 4 rfl dX10_valley_1 (gf_X10_68_10 rfl) rfl rfl ?_
  rw [show (m 37) 1 = nI 11 from hpm]
  refine r_bipush 6 rfl 11 dX10_valley_4 (by decide) ?_
  refine r_icmp_ne 9 18 rfl dX10_valley_6 rfl (fun q__ => absurd ((nI_eq (a := 11) (b := 11) (by omega) (by omega)).mpr (by omega)) q__) (fun _ => ?_)
  refine r_aload_n 10 rfl 0 dX10_valley_9 rfl rfl ?_
  refine q_V 13 0 0 rfl [] rfl dX10_valley_10 cl_X10_valley__X10_faultOf (lk_X10_79 rfl) im_X10_faultOf (ci := 10) rfl sl_X10__X10_faultOf rfl (Nat.le_of_ble_eq_true rfl) (fun _ _ => Nat.le_of_ble_eq_true rfl) rfl rfl (Nat.le_of_ble_eq_true rfl) (Nat.le_of_ble_eq_true rfl) ?_
  refine c_X10_faultOf hpm (by decide) (k_i ?_)
  refine r_bipush 15 rfl 11 dX10_valley_13 (by decide) ?_
  refine r_icmp_ge 18 21 rfl dX10_valley_15 rfl (fun q__ => absurd q__ (fun q__ => absurd ((nI_leI (a := 11) (b := (pg_fw (m 38) 11 0)) (by omega) (by omega)).mp q__) (by omega))) (fun _ => ?_)
  refine r_bipush 20 rfl (-103) dX10_valley_18 (by decide) ?_
  refine r_ireturn rfl dX10_valley_20 (Nat.le_of_ble_eq_true rfl) (Nat.le_of_ble_eq_true rfl) ?_
  exact k

set_option maxHeartbeats 4000000 in
set_option maxRecDepth 20000 in
theorem lp_val {Q : am_P} {z : am_Z} {m : Nat → Nat → Int32} {n : Nat} {f : Nat → Int32} (hf : ∀ j, j < 11 → m 38 j = f j) (hl : ∀ c, c < 8 → f (pg_pl c) = 46 ∨ f (pg_pl c) = 35 ∨ f (pg_pl c) = 119) (kx : ∀ m', (∀ j, j < 8 → m' 39 j = nI (gn (f (pg_pl j)))) → (∀ j, j < 8 → m' 40 j = 0) → ag [39, 40] m m' → AW mX10_valley Q 80 [some (.ref 37), none, none] [] (wd z m') n 0 0) : ∀ (d c : Nat), c + d = 8 → ∀ m', (∀ j, j < c → m' 39 j = nI (gn (f (pg_pl j)))) → (∀ j, j < c → m' 40 j = 0) → ag [39, 40] m m' → AW mX10_valley Q 23 [some (.ref 37), some (.int (nI c)), none] [] (wd z m') n 0 0 := by
  intro d
  induction d with
  | zero =>
    intro c hc m' h1 h2 hag
    obtain rfl : c = 8 := by omega
    refine r_iload_n 24 rfl 1 dX10_valley_23 rfl rfl ?_
    refine r_bipush 26 rfl 8 dX10_valley_24 (by decide) ?_
    refine r_icmp_ge 29 80 rfl dX10_valley_26 rfl (fun _ => ?_) (fun q__ => absurd ((nI_leI (a := 8) (b := 8) (by omega) (by omega)).mpr (by omega)) q__)
    refine AW.drop 1 [some (.ref 37), none, none] rfl ?_
    exact kx m' h1 h2 hag
  | succ d ih =>
    intro c hc m' h1 h2 hag
    have hpl := pl_lt (show c < 8 by omega)
    have hpe := pl_eq (show c < 8 by omega)
    rcases hl c (by omega) with hv | hv | hv
    · have hv' : m' 38 (c + c / 4) = 46 := by rw [hag 38 (by decide), hpe, hf _ (by omega)]; exact hv
      refine r_iload_n 24 rfl 1 dX10_valley_23 rfl rfl ?_
      refine r_bipush 26 rfl 8 dX10_valley_24 (by decide) ?_
      refine r_icmp_ge 29 80 rfl dX10_valley_26 rfl (fun q__ => absurd q__ (fun q__ => absurd ((nI_leI (a := 8) (b := c) (by omega) (by omega)).mp q__) (by omega))) (fun _ => ?_)
      refine r_aload_n 30 rfl 0 dX10_valley_29 rfl rfl ?_
      refine r_getf (v := .ref 38) (k := 0) 33 rfl dX10_valley_30 (gf_X10_7_10 rfl) rfl rfl ?_
      refine r_iload_n 34 rfl 1 dX10_valley_33 rfl rfl ?_
      refine r_iload_n 35 rfl 1 dX10_valley_34 rfl rfl ?_
      refine r_iconst 36 rfl 4 dX10_valley_35 rfl ?_
      refine r_idiv 37 rfl dX10_valley_36 (by decide) ?_
      rw [show (nI c) / 4 = nI (c / 4) from pk_div (a := c) (d := 4) (by omega) (by decide) (by decide)]
      refine r_iadd 38 rfl dX10_valley_37 ?_
      rw [show (nI c) + (nI (c / 4)) = nI (c + (c / 4)) from nI_add c (c / 4)]
      refine r_iald (f := m' 38) 39 rfl (c + (c / 4)) dX10_valley_38 rfl rfl (by omega) (by decide) ?_
      rw [show (m' 38) (c + (c / 4)) = 46 from hv']
      refine r_istore_n 40 rfl 2 [some (.ref 37), some (.int (nI c)), some (.int 46)] dX10_valley_39 rfl (by decide) rfl ?_
      refine r_aload_n 41 rfl 0 dX10_valley_40 rfl rfl ?_
      refine r_getf (v := .ref 39) (k := 7) 44 rfl dX10_valley_41 (gf_X10_13_10 rfl) rfl rfl ?_
      refine r_iload_n 45 rfl 1 dX10_valley_44 rfl rfl ?_
      refine r_iload_n 46 rfl 2 dX10_valley_45 rfl rfl ?_
      refine r_bipush 48 rfl 35 dX10_valley_46 (by decide) ?_
      refine r_icmp_ne 51 55 rfl dX10_valley_48 rfl (fun _ => ?_) (fun q__ => absurd q__ (by decide))
      refine r_iload_n 56 rfl 2 dX10_valley_55 rfl rfl ?_
      refine r_bipush 58 rfl 119 dX10_valley_56 (by decide) ?_
      refine r_icmp_ne 61 65 rfl dX10_valley_58 rfl (fun _ => ?_) (fun q__ => absurd q__ (by decide))
      refine r_iconst 66 rfl 0 dX10_valley_65 rfl ?_
      refine w_iast 67 rfl c (va_up m' 39 (upd (m' 39) c 0)) dX10_valley_66 (by decide) (by decide) (fun _ => rfl) rfl (by omega) (by decide) rfl ?_
      refine r_aload_n 68 rfl 0 dX10_valley_67 rfl rfl ?_
      refine r_getf (v := .ref 40) (k := 8) 71 rfl dX10_valley_68 (gf_X10_16_10 rfl) rfl rfl ?_
      refine r_iload_n 72 rfl 1 dX10_valley_71 rfl rfl ?_
      refine r_iconst 73 rfl 0 dX10_valley_72 rfl ?_
      refine w_iast 74 rfl c (va_up (va_up m' 39 (upd (m' 39) c 0)) 40 (upd (m' 40) c 0)) dX10_valley_73 (by decide) (by decide) (fun _ => rfl) rfl (by omega) (by decide) rfl ?_
      refine r_iinc 77 rfl (nI (c + 1)) [some (.ref 37), some (.int (nI (c + 1))), some (.int 46)] dX10_valley_74 rfl (nI_1 _) (by decide) rfl ?_
      refine r_goto 23 dX10_valley_77 rfl ?_
      refine AW.drop 2 [some (.ref 37), some (.int (nI (c + 1))), none] rfl ?_
      refine ih (c + 1) (by omega) _ (fun j hj => ?_) (fun j hj => ?_) (ag_up (ag_up hag (by decide)) (by decide))
      · show upd (m' 39) c 0 j = _; unfold upd
        by_cases hjc : j = c
        · rw [if_pos hjc, hjc, hv]; rfl
        · rw [if_neg hjc]; exact h1 j (by omega)
      · show upd (m' 40) c 0 j = _; unfold upd
        by_cases hjc : j = c
        · rw [if_pos hjc]
        · rw [if_neg hjc]; exact h2 j (by omega)
    · have hv' : m' 38 (c + c / 4) = 35 := by rw [hag 38 (by decide), hpe, hf _ (by omega)]; exact hv
      refine r_iload_n 24 rfl 1 dX10_valley_23 rfl rfl ?_
      refine r_bipush 26 rfl 8 dX10_valley_24 (by decide) ?_
      refine r_icmp_ge 29 80 rfl dX10_valley_26 rfl (fun q__ => absurd q__ (fun q__ => absurd ((nI_leI (a := 8) (b := c) (by omega) (by omega)).mp q__) (by omega))) (fun _ => ?_)
      refine r_aload_n 30 rfl 0 dX10_valley_29 rfl rfl ?_
      refine r_getf (v := .ref 38) (k := 0) 33 rfl dX10_valley_30 (gf_X10_7_10 rfl) rfl rfl ?_
      refine r_iload_n 34 rfl 1 dX10_valley_33 rfl rfl ?_
      refine r_iload_n 35 rfl 1 dX10_valley_34 rfl rfl ?_
      refine r_iconst 36 rfl 4 dX10_valley_35 rfl ?_
      refine r_idiv 37 rfl dX10_valley_36 (by decide) ?_
      rw [show (nI c) / 4 = nI (c / 4) from pk_div (a := c) (d := 4) (by omega) (by decide) (by decide)]
      refine r_iadd 38 rfl dX10_valley_37 ?_
      rw [show (nI c) + (nI (c / 4)) = nI (c + (c / 4)) from nI_add c (c / 4)]
      refine r_iald (f := m' 38) 39 rfl (c + (c / 4)) dX10_valley_38 rfl rfl (by omega) (by decide) ?_
      rw [show (m' 38) (c + (c / 4)) = 35 from hv']
      refine r_istore_n 40 rfl 2 [some (.ref 37), some (.int (nI c)), some (.int 35)] dX10_valley_39 rfl (by decide) rfl ?_
      refine r_aload_n 41 rfl 0 dX10_valley_40 rfl rfl ?_
      refine r_getf (v := .ref 39) (k := 7) 44 rfl dX10_valley_41 (gf_X10_13_10 rfl) rfl rfl ?_
      refine r_iload_n 45 rfl 1 dX10_valley_44 rfl rfl ?_
      refine r_iload_n 46 rfl 2 dX10_valley_45 rfl rfl ?_
      refine r_bipush 48 rfl 35 dX10_valley_46 (by decide) ?_
      refine r_icmp_ne 51 55 rfl dX10_valley_48 rfl (fun q__ => absurd (by decide) q__) (fun _ => ?_)
      refine r_iconst 52 rfl 1 dX10_valley_51 rfl ?_
      refine r_goto 66 dX10_valley_52 rfl ?_
      refine w_iast 67 rfl c (va_up m' 39 (upd (m' 39) c 1)) dX10_valley_66 (by decide) (by decide) (fun _ => rfl) rfl (by omega) (by decide) rfl ?_
      refine r_aload_n 68 rfl 0 dX10_valley_67 rfl rfl ?_
      refine r_getf (v := .ref 40) (k := 8) 71 rfl dX10_valley_68 (gf_X10_16_10 rfl) rfl rfl ?_
      refine r_iload_n 72 rfl 1 dX10_valley_71 rfl rfl ?_
      refine r_iconst 73 rfl 0 dX10_valley_72 rfl ?_
      refine w_iast 74 rfl c (va_up (va_up m' 39 (upd (m' 39) c 1)) 40 (upd (m' 40) c 0)) dX10_valley_73 (by decide) (by decide) (fun _ => rfl) rfl (by omega) (by decide) rfl ?_
      refine r_iinc 77 rfl (nI (c + 1)) [some (.ref 37), some (.int (nI (c + 1))), some (.int 35)] dX10_valley_74 rfl (nI_1 _) (by decide) rfl ?_
      refine r_goto 23 dX10_valley_77 rfl ?_
      refine AW.drop 2 [some (.ref 37), some (.int (nI (c + 1))), none] rfl ?_
      refine ih (c + 1) (by omega) _ (fun j hj => ?_) (fun j hj => ?_) (ag_up (ag_up hag (by decide)) (by decide))
      · show upd (m' 39) c 1 j = _; unfold upd
        by_cases hjc : j = c
        · rw [if_pos hjc, hjc, hv]; rfl
        · rw [if_neg hjc]; exact h1 j (by omega)
      · show upd (m' 40) c 0 j = _; unfold upd
        by_cases hjc : j = c
        · rw [if_pos hjc]
        · rw [if_neg hjc]; exact h2 j (by omega)
    · have hv' : m' 38 (c + c / 4) = 119 := by rw [hag 38 (by decide), hpe, hf _ (by omega)]; exact hv
      refine r_iload_n 24 rfl 1 dX10_valley_23 rfl rfl ?_
      refine r_bipush 26 rfl 8 dX10_valley_24 (by decide) ?_
      refine r_icmp_ge 29 80 rfl dX10_valley_26 rfl (fun q__ => absurd q__ (fun q__ => absurd ((nI_leI (a := 8) (b := c) (by omega) (by omega)).mp q__) (by omega))) (fun _ => ?_)
      refine r_aload_n 30 rfl 0 dX10_valley_29 rfl rfl ?_
      refine r_getf (v := .ref 38) (k := 0) 33 rfl dX10_valley_30 (gf_X10_7_10 rfl) rfl rfl ?_
      refine r_iload_n 34 rfl 1 dX10_valley_33 rfl rfl ?_
      refine r_iload_n 35 rfl 1 dX10_valley_34 rfl rfl ?_
      refine r_iconst 36 rfl 4 dX10_valley_35 rfl ?_
      refine r_idiv 37 rfl dX10_valley_36 (by decide) ?_
      rw [show (nI c) / 4 = nI (c / 4) from pk_div (a := c) (d := 4) (by omega) (by decide) (by decide)]
      refine r_iadd 38 rfl dX10_valley_37 ?_
      rw [show (nI c) + (nI (c / 4)) = nI (c + (c / 4)) from nI_add c (c / 4)]
      refine r_iald (f := m' 38) 39 rfl (c + (c / 4)) dX10_valley_38 rfl rfl (by omega) (by decide) ?_
      rw [show (m' 38) (c + (c / 4)) = 119 from hv']
      refine r_istore_n 40 rfl 2 [some (.ref 37), some (.int (nI c)), some (.int 119)] dX10_valley_39 rfl (by decide) rfl ?_
      refine r_aload_n 41 rfl 0 dX10_valley_40 rfl rfl ?_
      refine r_getf (v := .ref 39) (k := 7) 44 rfl dX10_valley_41 (gf_X10_13_10 rfl) rfl rfl ?_
      refine r_iload_n 45 rfl 1 dX10_valley_44 rfl rfl ?_
      refine r_iload_n 46 rfl 2 dX10_valley_45 rfl rfl ?_
      refine r_bipush 48 rfl 35 dX10_valley_46 (by decide) ?_
      refine r_icmp_ne 51 55 rfl dX10_valley_48 rfl (fun _ => ?_) (fun q__ => absurd q__ (by decide))
      refine r_iload_n 56 rfl 2 dX10_valley_55 rfl rfl ?_
      refine r_bipush 58 rfl 119 dX10_valley_56 (by decide) ?_
      refine r_icmp_ne 61 65 rfl dX10_valley_58 rfl (fun q__ => absurd (by decide) q__) (fun _ => ?_)
      refine r_iconst 62 rfl 2 dX10_valley_61 rfl ?_
      refine r_goto 66 dX10_valley_62 rfl ?_
      refine w_iast 67 rfl c (va_up m' 39 (upd (m' 39) c 2)) dX10_valley_66 (by decide) (by decide) (fun _ => rfl) rfl (by omega) (by decide) rfl ?_
      refine r_aload_n 68 rfl 0 dX10_valley_67 rfl rfl ?_
      refine r_getf (v := .ref 40) (k := 8) 71 rfl dX10_valley_68 (gf_X10_16_10 rfl) rfl rfl ?_
      refine r_iload_n 72 rfl 1 dX10_valley_71 rfl rfl ?_
      refine r_iconst 73 rfl 0 dX10_valley_72 rfl ?_
      refine w_iast 74 rfl c (va_up (va_up m' 39 (upd (m' 39) c 2)) 40 (upd (m' 40) c 0)) dX10_valley_73 (by decide) (by decide) (fun _ => rfl) rfl (by omega) (by decide) rfl ?_
      refine r_iinc 77 rfl (nI (c + 1)) [some (.ref 37), some (.int (nI (c + 1))), some (.int 119)] dX10_valley_74 rfl (nI_1 _) (by decide) rfl ?_
      refine r_goto 23 dX10_valley_77 rfl ?_
      refine AW.drop 2 [some (.ref 37), some (.int (nI (c + 1))), none] rfl ?_
      refine ih (c + 1) (by omega) _ (fun j hj => ?_) (fun j hj => ?_) (ag_up (ag_up hag (by decide)) (by decide))
      · show upd (m' 39) c 2 j = _; unfold upd
        by_cases hjc : j = c
        · rw [if_pos hjc, hjc, hv]; rfl
        · rw [if_neg hjc]; exact h1 j (by omega)
      · show upd (m' 40) c 0 j = _; unfold upd
        by_cases hjc : j = c
        · rw [if_pos hjc]
        · rw [if_neg hjc]; exact h2 j (by omega)

set_option maxHeartbeats 4000000 in
set_option maxRecDepth 20000 in
theorem lp_vtx {Q : am_P} {z : am_Z} {m : Nat → Nat → Int32} {n : Nat} (kx : ∀ m', (∀ j, j < 3 → m' 41 j = 0) → ag [41] m m' → AW mX10_valley Q 100 [some (.ref 37), none, none] [] (wd z m') n 0 0) : ∀ (d c : Nat), c + d = 3 → ∀ m', (∀ j, j < c → m' 41 j = 0) → ag [41] m m' → AW mX10_valley Q 82 [some (.ref 37), some (.int (nI c)), none] [] (wd z m') n 0 0 := by
  intro d
  induction d with
  | zero =>
    intro c hc m' h0 hag
    obtain rfl : c = 3 := by omega
    refine r_iload_n 83 rfl 1 dX10_valley_82 rfl rfl ?_
    refine r_iconst 84 rfl 3 dX10_valley_83 rfl ?_
    refine r_icmp_ge 87 100 rfl dX10_valley_84 rfl (fun _ => ?_) (fun q__ => absurd ((nI_leI (a := 3) (b := 3) (by omega) (by omega)).mpr (by omega)) q__)
    refine AW.drop 1 [some (.ref 37), none, none] rfl ?_
    exact kx m' h0 hag
  | succ d ih =>
    intro c hc m' h0 hag
    refine r_iload_n 83 rfl 1 dX10_valley_82 rfl rfl ?_
    refine r_iconst 84 rfl 3 dX10_valley_83 rfl ?_
    refine r_icmp_ge 87 100 rfl dX10_valley_84 rfl (fun q__ => absurd q__ (fun q__ => absurd ((nI_leI (a := 3) (b := c) (by omega) (by omega)).mp q__) (by omega))) (fun _ => ?_)
    refine r_aload_n 88 rfl 0 dX10_valley_87 rfl rfl ?_
    refine r_getf (v := .ref 41) (k := 9) 91 rfl dX10_valley_88 (gf_X10_19_10 rfl) rfl rfl ?_
    refine r_iload_n 92 rfl 1 dX10_valley_91 rfl rfl ?_
    refine r_iconst 93 rfl 0 dX10_valley_92 rfl ?_
    refine w_iast 94 rfl c (va_up m' 41 (upd (m' 41) c 0)) dX10_valley_93 (by decide) (by decide) (fun _ => rfl) rfl (by omega) (by decide) rfl ?_
    refine r_iinc 97 rfl (nI (c + 1)) [some (.ref 37), some (.int (nI (c + 1))), none] dX10_valley_94 rfl (nI_1 _) (by decide) rfl ?_
    refine r_goto 82 dX10_valley_97 rfl ?_
    refine ih (c + 1) (by omega) _ (fun j hj => ?_) (ag_up hag (by decide))
    rw [va_up_self]; unfold upd
    by_cases h : j = c
    · rw [if_pos h]
    · rw [if_neg h]; exact h0 j (by omega)

set_option maxHeartbeats 4000000 in
set_option maxRecDepth 20000 in
theorem c10_valley_t {Q : am_P} {z : am_Z} {m : Nat → Nat → Int32} {n : Nat} {f : Nat → Int32} (hf : ∀ j, j < 11 → m 38 j = f j) (hpm : m 37 1 = nI 11) (hw : pg_fw (m 38) 11 0 = 11) (hl : ∀ c, c < 8 → f (pg_pl c) = 46 ∨ f (pg_pl c) = 35 ∨ f (pg_pl c) = 119) {fd : Nat} (hfd : f 10 = nI (48 + fd)) (hf1 : 1 ≤ fd) (hf3 : fd ≤ 3) {v : Nat} (hv : m 37 6 = nI v) (k : ∀ m', (∀ j, j < 8 → m' 39 j = nI (gn (f (pg_pl j)))) → (∀ j, j < 8 → m' 40 j = 0) → (∀ j, j < 3 → m' 41 j = 0) → m' 37 = upd (upd (upd (upd (upd (upd (upd (upd (m 37) 2 (nI fd)) 3 0) 4 0) 5 0) 10 0) 18 0) 6 (nI (v + 1))) 1 0 → ag [37, 39, 40, 41] m m' → Q (some (.int (nI (cnt0 (fun j => nI (gn (f (pg_pl j)))) 8)))) (wd z m') n) : AW mX10_valley Q 0 (am_ent (am_l mX10_valley) [.ref 37]) [] (wd z m) n 0 0 := by
  show AW _ _ 0 [some (.ref 37), none, none] [] _ _ 0 0
  refine r_aload_n 1 rfl 0 dX10_valley_0 rfl rfl ?_
  refine r_getf (v := .int ((m 37) 1)) (k := 1) 4 rfl dX10_valley_1 (gf_X10_68_10 rfl) rfl rfl ?_
  rw [show (m 37) 1 = nI 11 from hpm]
  refine r_bipush 6 rfl 11 dX10_valley_4 (by decide) ?_
  refine r_icmp_ne 9 18 rfl dX10_valley_6 rfl (fun q__ => absurd ((nI_eq (a := 11) (b := 11) (by omega) (by omega)).mpr (by omega)) q__) (fun _ => ?_)
  refine r_aload_n 10 rfl 0 dX10_valley_9 rfl rfl ?_
  refine q_V 13 0 0 rfl [] rfl dX10_valley_10 cl_X10_valley__X10_faultOf (lk_X10_79 rfl) im_X10_faultOf (ci := 10) rfl sl_X10__X10_faultOf rfl (Nat.le_of_ble_eq_true rfl) (fun _ _ => Nat.le_of_ble_eq_true rfl) rfl rfl (Nat.le_of_ble_eq_true rfl) (Nat.le_of_ble_eq_true rfl) ?_
  refine c_X10_faultOf hpm (by decide) (k_i ?_)
  refine r_bipush 15 rfl 11 dX10_valley_13 (by decide) ?_
  refine r_icmp_ge 18 21 rfl dX10_valley_15 rfl (fun _ => ?_) (fun q__ => absurd (by rw [hw]; decide) q__)
  refine r_iconst 22 rfl 0 dX10_valley_21 rfl ?_
  refine r_istore_n 23 rfl 1 [some (.ref 37), some (.int 0), none] dX10_valley_22 rfl (by decide) rfl ?_
  refine lp_val hf hl (fun m1 h1 h2 hag1 => ?_) 8 0 rfl m (fun j hj => absurd hj (Nat.not_lt_zero j)) (fun j hj => absurd hj (Nat.not_lt_zero j)) (ag_r _ _)
  refine r_iconst 81 rfl 0 dX10_valley_80 rfl ?_
  refine r_istore_n 82 rfl 1 [some (.ref 37), some (.int 0), none] dX10_valley_81 rfl (by decide) rfl ?_
  refine lp_vtx (fun m2 h3 hag2 => ?_) 3 0 rfl m1 (fun j hj => absurd hj (Nat.not_lt_zero j)) (ag_r _ _)
  have e10 : m2 38 10 = nI (48 + fd) := by rw [hag2 38 (by decide), hag1 38 (by decide), hf 10 (by decide)]; exact hfd
  have e37 : m2 37 = m 37 := by rw [hag2 37 (by decide), hag1 37 (by decide)]
  have e6 : m2 37 6 = nI v := by rw [e37]; exact hv
  have e39 : ∀ j, j < 8 → m2 39 j = nI (gn (f (pg_pl j))) := fun j hj => by rw [hag2 39 (by decide)]; exact h1 j hj
  refine r_aload_n 101 rfl 0 dX10_valley_100 rfl rfl ?_
  refine r_aload_n 102 rfl 0 dX10_valley_101 rfl rfl ?_
  refine r_getf (v := .ref 38) (k := 0) 105 rfl dX10_valley_102 (gf_X10_7_10 rfl) rfl rfl ?_
  refine r_bipush 107 rfl 10 dX10_valley_105 (by decide) ?_
  refine r_iald (f := m2 38) 108 rfl 10 dX10_valley_107 rfl rfl (by omega) (by decide) ?_
  rw [show (m2 38) 10 = nI (48 + fd) from e10]
  refine r_bipush 110 rfl 48 dX10_valley_108 (by decide) ?_
  refine r_isub 111 rfl dX10_valley_110 ?_
  rw [show (nI (48 + fd)) - 48 = nI fd from (pk_sub (a := 48 + fd) (b := 48) (by omega)).trans (by rw [show 48 + fd - 48 = fd by omega])]
  refine w_putf 114 rfl (k := 2) (va_up m2 37 (upd (m2 37) 2 (nI fd))) dX10_valley_111 (pf_X10_83_10 rfl) (by decide) (by decide) rfl (Nat.le_of_ble_eq_true rfl) rfl ⟨rfl, rfl⟩ rfl ?_
  refine r_aload_n 115 rfl 0 dX10_valley_114 rfl rfl ?_
  refine r_iconst 116 rfl 0 dX10_valley_115 rfl ?_
  refine w_putf 119 rfl (k := 3) (va_up (va_up m2 37 (upd (m2 37) 2 (nI fd))) 37 (upd (upd (m2 37) 2 (nI fd)) 3 0)) dX10_valley_116 (pf_X10_86_10 rfl) (by decide) (by decide) rfl (Nat.le_of_ble_eq_true rfl) rfl ⟨rfl, rfl⟩ rfl ?_
  refine r_aload_n 120 rfl 0 dX10_valley_119 rfl rfl ?_
  refine r_iconst 121 rfl 0 dX10_valley_120 rfl ?_
  refine w_putf 124 rfl (k := 4) (va_up (va_up (va_up m2 37 (upd (m2 37) 2 (nI fd))) 37 (upd (upd (m2 37) 2 (nI fd)) 3 0)) 37 (upd (upd (upd (m2 37) 2 (nI fd)) 3 0) 4 0)) dX10_valley_121 (pf_X10_89_10 rfl) (by decide) (by decide) rfl (Nat.le_of_ble_eq_true rfl) rfl ⟨rfl, rfl⟩ rfl ?_
  refine r_aload_n 125 rfl 0 dX10_valley_124 rfl rfl ?_
  refine r_iconst 126 rfl 0 dX10_valley_125 rfl ?_
  refine w_putf 129 rfl (k := 5) (va_up (va_up (va_up (va_up m2 37 (upd (m2 37) 2 (nI fd))) 37 (upd (upd (m2 37) 2 (nI fd)) 3 0)) 37 (upd (upd (upd (m2 37) 2 (nI fd)) 3 0) 4 0)) 37 (upd (upd (upd (upd (m2 37) 2 (nI fd)) 3 0) 4 0) 5 0)) dX10_valley_126 (pf_X10_92_10 rfl) (by decide) (by decide) rfl (Nat.le_of_ble_eq_true rfl) rfl ⟨rfl, rfl⟩ rfl ?_
  refine r_aload_n 130 rfl 0 dX10_valley_129 rfl rfl ?_
  refine r_iconst 131 rfl 0 dX10_valley_130 rfl ?_
  refine w_putf 134 rfl (k := 10) (va_up (va_up (va_up (va_up (va_up m2 37 (upd (m2 37) 2 (nI fd))) 37 (upd (upd (m2 37) 2 (nI fd)) 3 0)) 37 (upd (upd (upd (m2 37) 2 (nI fd)) 3 0) 4 0)) 37 (upd (upd (upd (upd (m2 37) 2 (nI fd)) 3 0) 4 0) 5 0)) 37 (upd (upd (upd (upd (upd (m2 37) 2 (nI fd)) 3 0) 4 0) 5 0) 10 0)) dX10_valley_131 (pf_X10_95_10 rfl) (by decide) (by decide) rfl (Nat.le_of_ble_eq_true rfl) rfl ⟨rfl, rfl⟩ rfl ?_
  refine r_aload_n 135 rfl 0 dX10_valley_134 rfl rfl ?_
  refine r_iconst 136 rfl 0 dX10_valley_135 rfl ?_
  refine w_putf 139 rfl (k := 18) (va_up (va_up (va_up (va_up (va_up (va_up m2 37 (upd (m2 37) 2 (nI fd))) 37 (upd (upd (m2 37) 2 (nI fd)) 3 0)) 37 (upd (upd (upd (m2 37) 2 (nI fd)) 3 0) 4 0)) 37 (upd (upd (upd (upd (m2 37) 2 (nI fd)) 3 0) 4 0) 5 0)) 37 (upd (upd (upd (upd (upd (m2 37) 2 (nI fd)) 3 0) 4 0) 5 0) 10 0)) 37 (upd (upd (upd (upd (upd (upd (m2 37) 2 (nI fd)) 3 0) 4 0) 5 0) 10 0) 18 0)) dX10_valley_136 (pf_X10_98_10 rfl) (by decide) (by decide) rfl (Nat.le_of_ble_eq_true rfl) rfl ⟨rfl, rfl⟩ rfl ?_
  refine r_aload_n 140 rfl 0 dX10_valley_139 rfl rfl ?_
  refine r_dup 141 rfl dX10_valley_140 rfl ?_
  refine r_getf (v := .int (m2 37 6)) (k := 6) 144 rfl dX10_valley_141 (gf_X10_101_10 rfl) rfl rfl ?_
  rw [show m2 37 6 = nI v from e6]
  refine r_iconst 145 rfl 1 dX10_valley_144 rfl ?_
  refine r_iadd 146 rfl dX10_valley_145 ?_
  rw [show (nI v) + 1 = nI (v + 1) from nI_add v 1]
  refine w_putf 149 rfl (k := 6) (va_up (va_up (va_up (va_up (va_up (va_up (va_up m2 37 (upd (m2 37) 2 (nI fd))) 37 (upd (upd (m2 37) 2 (nI fd)) 3 0)) 37 (upd (upd (upd (m2 37) 2 (nI fd)) 3 0) 4 0)) 37 (upd (upd (upd (upd (m2 37) 2 (nI fd)) 3 0) 4 0) 5 0)) 37 (upd (upd (upd (upd (upd (m2 37) 2 (nI fd)) 3 0) 4 0) 5 0) 10 0)) 37 (upd (upd (upd (upd (upd (upd (m2 37) 2 (nI fd)) 3 0) 4 0) 5 0) 10 0) 18 0)) 37 (upd (upd (upd (upd (upd (upd (upd (m2 37) 2 (nI fd)) 3 0) 4 0) 5 0) 10 0) 18 0) 6 (nI (v + 1)))) dX10_valley_146 (pf_X10_101_10 rfl) (by decide) (by decide) rfl (Nat.le_of_ble_eq_true rfl) rfl ⟨rfl, rfl⟩ rfl ?_
  refine r_aload_n 150 rfl 0 dX10_valley_149 rfl rfl ?_
  refine r_iconst 151 rfl 0 dX10_valley_150 rfl ?_
  refine w_putf 154 rfl (k := 1) (va_up (va_up (va_up (va_up (va_up (va_up (va_up (va_up m2 37 (upd (m2 37) 2 (nI fd))) 37 (upd (upd (m2 37) 2 (nI fd)) 3 0)) 37 (upd (upd (upd (m2 37) 2 (nI fd)) 3 0) 4 0)) 37 (upd (upd (upd (upd (m2 37) 2 (nI fd)) 3 0) 4 0) 5 0)) 37 (upd (upd (upd (upd (upd (m2 37) 2 (nI fd)) 3 0) 4 0) 5 0) 10 0)) 37 (upd (upd (upd (upd (upd (upd (m2 37) 2 (nI fd)) 3 0) 4 0) 5 0) 10 0) 18 0)) 37 (upd (upd (upd (upd (upd (upd (upd (m2 37) 2 (nI fd)) 3 0) 4 0) 5 0) 10 0) 18 0) 6 (nI (v + 1)))) 37 (upd (upd (upd (upd (upd (upd (upd (upd (m2 37) 2 (nI fd)) 3 0) 4 0) 5 0) 10 0) 18 0) 6 (nI (v + 1))) 1 0)) dX10_valley_151 (pf_X10_68_10 rfl) (by decide) (by decide) rfl (Nat.le_of_ble_eq_true rfl) rfl ⟨rfl, rfl⟩ rfl ?_
  refine r_aload_n 155 rfl 0 dX10_valley_154 rfl rfl ?_
  have hC3 : C10 (va_up (va_up (va_up (va_up (va_up (va_up (va_up (va_up m2 37 (upd (m2 37) 2 (nI fd))) 37 (upd (upd (m2 37) 2 (nI fd)) 3 0)) 37 (upd (upd (upd (m2 37) 2 (nI fd)) 3 0) 4 0)) 37 (upd (upd (upd (upd (m2 37) 2 (nI fd)) 3 0) 4 0) 5 0)) 37 (upd (upd (upd (upd (upd (m2 37) 2 (nI fd)) 3 0) 4 0) 5 0) 10 0)) 37 (upd (upd (upd (upd (upd (upd (m2 37) 2 (nI fd)) 3 0) 4 0) 5 0) 10 0) 18 0)) 37 (upd (upd (upd (upd (upd (upd (upd (m2 37) 2 (nI fd)) 3 0) 4 0) 5 0) 10 0) 18 0) 6 (nI (v + 1)))) 37 (upd (upd (upd (upd (upd (upd (upd (upd (m2 37) 2 (nI fd)) 3 0) 4 0) 5 0) 10 0) 18 0) 6 (nI (v + 1))) 1 0)) (fun t j => if t = 0 then gn (f (pg_pl j)) else if t = 7 then (if j = 0 then fd else 0) else 0) := ⟨fun j hj => ⟨e39 j hj, gn_le _⟩, rfl, hf3, fun _ => hf1, rfl, Nat.zero_le 7, fun s hs => absurd hs (Nat.not_lt_zero s), rfl, Nat.zero_le 4, rfl, Nat.zero_le 1, rfl, by show 0 < 2 ^ 30; decide⟩
  refine q_V 158 0 0 rfl [] rfl dX10_valley_155 cl_X10_valley__X10_opens (lk_X10_104 rfl) im_X10_opens (ci := 10) rfl sl_X10__X10_opens rfl (Nat.le_of_ble_eq_true rfl) (fun _ _ => Nat.le_of_ble_eq_true rfl) rfl rfl (Nat.le_of_ble_eq_true rfl) (Nat.le_of_ble_eq_true rfl) ?_
  refine c_opens_t hC3 hf1 (k_i ?_)
  refine r_ireturn rfl dX10_valley_158 (Nat.le_of_ble_eq_true rfl) (Nat.le_of_ble_eq_true rfl) ?_
  refine k _ e39 (fun j hj => ?_) (fun j hj => ?_) ?_ (fun x hx => ?_)
  · show m2 40 j = _; rw [hag2 40 (by decide)]; exact h2 j hj
  · show m2 41 j = _; exact h3 j hj
  · show upd (upd (upd (upd (upd (upd (upd (upd (m2 37) 2 (nI fd)) 3 0) 4 0) 5 0) 10 0) 18 0) 6 (nI (v + 1))) 1 0 = _; rw [e37]
  · have hx' := hx
    simp only [List.mem_cons, List.not_mem_nil, or_false, not_or] at hx'
    obtain ⟨x1, x2, x3, x4⟩ := hx'
    simp only [va_up, if_neg x1]
    rw [hag2 x (by simp [x4]), hag1 x (by simp [x2, x3])]

def VT (D : Nat → Nat → Nat) (g : Nat → Nat) (fd : Nat) : Nat → Nat → Nat := fun t => if t = 0 then g else if t = 7 then (fun j => if j = 0 then fd else 0) else if t = 8 then va_up (va_up (va_up (D 8) 0 0) 1 0) 2 (D 8 2 + 1) else D t

set_option maxHeartbeats 4000000 in
set_option maxRecDepth 20000 in
theorem P_valley {i : Nat} {z : am_Z} {m : Nat → Nat → Int32} {n : Nat} {D K : Nat → Nat → Nat} (hI : IV i z m n D K) (hi : i + 5 ≤ 2560)  : AW mX9_valley (PR (i + 5) mX10_valley [.ref 37]) 0 (am_ent (am_l mX9_valley) [.ref 1]) [] (wd z m) n 0 0 := by
  obtain ⟨h9, h10, hnz, hpg, hop, hnw, hct, him⟩ := id hI
  obtain ⟨hp1, hp2, hp3, hp4⟩ := id hpg
  obtain ⟨d1, d2, d3, d4, d5, d6⟩ := id hct
  by_cases h11 : D 8 0 = 11
  · rw [h11] at hp1 hp2 hp4
    have hfw : pg_fw (m 38) 11 0 = pg_fw (m 3) 11 0 := (pg_fw_congr (f := m 3) (g := m 38) 11 0 (fun j _ hj => hp4 j (by omega))).symm
    by_cases hw : pg_fw (m 3) 11 0 = 11
    · obtain ⟨hl, fd, f1, f3, hfd⟩ := pg_val hw
      refine c9_valley_t hnz.1 hp1 hw hl hfd f3 d1.1 (fun z1 m1 y2 t1 t2 t3 t4 ⟨u0, u3, u4, u5, u8⟩ g1 g2 g3 g4 g5 g6 e1 hag => PR_i (fun Q2 k => ?_))
      have a1 (x : Nat) (hx : x ∉ [1, 2, 4, 5, 7, 8, 9, 10, 11, 12, 13]) : m1 x = m x := hag x hx
      refine c10_valley_t (f := m 3) (fun j hj => by rw [a1 38 (by decide)]; exact (hp4 j hj).symm) (by rw [a1 37 (by decide)]; exact hp2) (by rw [a1 38 (by decide), hfw]; exact hw) hl hfd f1 f3 (by rw [a1 37 (by decide)]; exact d1.2.1) (fun m2 r39 r40 r41 r37 hag2 => ?_)
      rw [a1 37 (by decide)] at r37
      have e (x : Nat) (hx : x ∉ [37, 39, 40, 41]) : m2 x = m1 x := hag2 x hx
      have ee (x : Nat) (hx : x ∉ [1, 2, 4, 5, 7, 8, 9, 10, 11, 12, 13, 37, 39, 40, 41]) : m2 x = m x := by
        rw [e x (fun q => hx (by simp only [List.mem_cons, List.not_mem_nil, or_false] at q ⊢; omega))]; exact a1 x (fun q => hx (by simp only [List.mem_cons, List.not_mem_nil, or_false] at q ⊢; omega))
      refine k z1 m2 (n + 7) (VT D (fun j => gn (m 3 (pg_pl j))) fd) K ⟨⟨fun j hj => ⟨?_, gn_le _⟩, ?_, f3, fun _ => f1, ?_, Nat.zero_le 6, fun s hs => absurd hs (Nat.not_lt_zero s), fun s hs => absurd hs (Nat.not_lt_zero s), ?_, Nat.zero_le 4, ?_, Nat.zero_le 1, ?_, (show 0 < 2 ^ 30 by decide)⟩, ⟨fun j hj => ⟨r39 j hj, gn_le _⟩, ?_, f3, fun _ => f1, ?_, Nat.zero_le 7, fun s hs => absurd hs (Nat.not_lt_zero s), ?_, Nat.zero_le 4, ?_, Nat.zero_le 1, ?_, (show 0 < 2 ^ 30 by decide)⟩, ⟨by have := hnz.1; omega, fun s q hq => ?_⟩, ⟨?_, ?_, Nat.zero_le 14, fun j hj => absurd hj (Nat.not_lt_zero j)⟩, ?_, ⟨⟨fun j hj => ?_, fun j hj => ?_, Nat.zero_le 8, fun j hj => absurd hj (Nat.not_lt_zero j)⟩, ?_, ?_, fun j hj => ?_⟩, ⟨⟨?_, ?_, (show D 8 2 + 1 ≤ i + 5 by have := d1.2.2; omega)⟩, ?_, ?_, Nat.zero_le _, fun s hs => absurd hs (Nat.not_lt_zero s), hi⟩, Or.inl ⟨?_, ?_⟩⟩
      · rw [e 5 (by decide)]; exact t3 j hj
      · rw [e 4 (by decide)]; exact t2
      · rw [e 7 (by decide)]; exact u0
      · rw [e 7 (by decide)]; exact u3
      · rw [e 7 (by decide)]; exact u4
      · rw [e 7 (by decide)]; exact u5
      · rw [r37]; rfl
      · rw [r37]; rfl
      · rw [r37]; rfl
      · rw [r37]; rfl
      · rw [r37]; rfl
      · rw [y2] at hq; have := hnz.2 s q hq; omega
      · rw [e 2 (by decide), t4]; rfl
      · rw [r37]; rfl
      · show m2 4 1 = nI (if fd = 0 then 0 else cnt0 (fun j => nI (gn (m 3 (pg_pl j)))) 8); rw [e 4 (by decide), if_neg (by omega)]; exact t1
      · show m2 10 j = m2 40 j; rw [e 10 (by decide), g3 j hj, r40 j hj]
      · show m2 11 j = m2 41 j; rw [e 11 (by decide), g4 j hj, r41 j hj]
      · rw [e 7 (by decide)]; exact u8
      · rw [r37]; rfl
      · show m2 8 j = 0 ∨ m2 8 j = 1; rw [e 8 (by decide), g1 j hj]; exact Or.inl rfl
      · rw [e 1 (by decide), e1]; rfl
      · rw [r37]; rfl
      · rw [e 1 (by decide), e1, r37]; exact d2
      · rw [e 1 (by decide), e1, r37]; exact d3
      · rw [e 1 (by decide), e1]; rfl
      · rw [r37]; show m 37 23 = -1 ∨ ∃ v, v < D 8 2 + 1 ∧ m 37 23 = nI v
        rcases him with ⟨_, h | ⟨v, v1, v2⟩⟩ | ⟨_, v2, _⟩
        · exact Or.inl h
        · exact Or.inr ⟨v, by omega, v2⟩
        · exact Or.inr ⟨D 8 2, by omega, v2⟩
    · exact c9_valley_s2 hp1 hw (PR_i (fun Q2 k => c10_valley_s2 hp2 (by rw [hfw]; exact hw) (k _ _ _ _ _ (IV_mono hI (by omega) hi))))
  · exact c9_valley_s1 hp1 hp3 h11 (PR_i (fun Q2 k => c10_valley_s1 hp2 hp3 h11 (k _ _ _ _ _ (IV_mono hI (by omega) hi))))
