theorem sp_fire_0 {E : sp_G} {u : Nat → Nat} {c w : Nat} (h : u c = 0) : sp_fire E u c w = false := by
  unfold sp_fire
  cases E c w with
  | none => rfl
  | some q => exact decide_eq_false (by omega)
theorem sp_gw_0 {E : sp_G} {u : Nat → Nat} {c : Nat} (h : u c = 0) : ∀ {w}, sp_gw E u c w = false
  | 0 => rfl
  | w + 1 => by
    have h1 := sp_gw_0 (E := E) h (w := w)
    unfold sp_gw
    rw [h1, sp_w_eq w h1, sp_fire_0 h]
    rfl

set_option maxHeartbeats 4000000 in
set_option maxRecDepth 20000 in
theorem lp_spread0_33 {Q : am_P} {z : am_Z} {m : Nat → Nat → Int32} {n : Nat} {s F ea wi : Nat} {wl : Int32} (kx : ∀ m', (∀ j, j < 8 → m' 33 j = 0) → ag [33] m m' → AW mX7_spread Q 22 [some (.ref 4), some (.int (nI s)), some (.int (nI F)), some (.int (nI ea)), some (.int (nI wi)), some (.int wl), some (.ref 33), none, none, none] [] (wd z m') n 0 0) : ∀ (d c : Nat), c + d = 8 → ∀ m', (∀ j, j < c → m' 33 j = 0) → ag [33] m m' → AW mX7_spread Q 3 [some (.ref 4), some (.int (nI s)), some (.int (nI F)), some (.int (nI ea)), some (.int (nI wi)), some (.int wl), some (.ref 33), some (.int (nI c)), none, none] [] (wd z m') n 0 0 := by
  intro d
  induction d with
  | zero =>
    intro c hc m' hm hag
    have hc : c = 8 := by omega
    subst hc
    refine r_iload 5 rfl dX7_spread_3 rfl ?_
    refine r_bipush 7 rfl 8 dX7_spread_5 (by decide) ?_
    refine r_icmp_ge 10 22 rfl dX7_spread_7 rfl (fun _ => ?_) (fun q__ => absurd ((nI_leI (a := 8) (b := 8) (by omega) (by omega)).mpr (by omega)) q__)
    refine AW.drop 7 [some (.ref 4), some (.int (nI s)), some (.int (nI F)), some (.int (nI ea)), some (.int (nI wi)), some (.int wl), some (.ref 33), none, none, none] rfl ?_
    exact kx m' hm hag
  | succ d ih =>
    intro c hc m' hm hag
    refine r_iload 5 rfl dX7_spread_3 rfl ?_
    refine r_bipush 7 rfl 8 dX7_spread_5 (by decide) ?_
    refine r_icmp_ge 10 22 rfl dX7_spread_7 rfl (fun q__ => absurd q__ (fun q__ => absurd ((nI_leI (a := 8) (b := c) (by omega) (by omega)).mp q__) (by omega))) (fun _ => ?_)
    refine r_aload 12 rfl dX7_spread_10 rfl ?_
    refine r_iload 14 rfl dX7_spread_12 rfl ?_
    refine r_iconst 15 rfl 0 dX7_spread_14 rfl ?_
    refine w_iast 16 rfl c (va_up m' 33 (upd (m' 33) c 0)) dX7_spread_15 (by decide) (by decide) (fun _ => rfl) rfl (by omega) (by decide) rfl ?_
    refine r_iinc 19 rfl (nI (c + 1)) [some (.ref 4), some (.int (nI s)), some (.int (nI F)), some (.int (nI ea)), some (.int (nI wi)), some (.int wl), some (.ref 33), some (.int (nI (c + 1))), none, none] dX7_spread_16 rfl (nI_1 _) (by decide) rfl ?_
    refine r_goto 3 dX7_spread_19 rfl ?_
    refine ih (c + 1) (by omega) _ (fun j hj => ?_) (ag_up hag (by decide))
    rw [va_up_self]
    unfold upd
    by_cases hjc : j = c
    · rw [if_pos hjc]
    · rw [if_neg hjc]; exact hm j (by omega)
set_option maxHeartbeats 4000000 in
set_option maxRecDepth 20000 in
theorem lp_spread2_33 {Q : am_P} {z : am_Z} {m : Nat → Nat → Int32} {n : Nat} (g : Nat → Nat) (hg : ∀ j, j < 8 → m 5 j = nI (g j) ∧ g j ≤ 2) {fd : Nat} (hfd : m 4 2 = nI fd) (hf1 : 1 ≤ fd) (hf3 : fd ≤ 3) {s F ea wi : Nat} {wl : Int32} (hs : s < 8) (hF : F ≤ 9) (hea : ea ≤ 1) (hwi : wi ≤ 4) (u : Nat → Nat) (hu : ∀ j, u j ≤ 9) {q : Int32} (kx : ∀ m', (∀ j, j < 8 → m' 33 j = nI (sp_r (sp_E g (sp_b wl) fd ea wi) u 8 j)) → ag [33] m m' → AW mX7_spread Q 91 [some (.ref 4), some (.int (nI s)), some (.int (nI F)), some (.int (nI ea)), some (.int (nI wi)), some (.int wl), some (.ref 33), some (.int (if sp_gr (sp_E g (sp_b wl) fd ea wi) u 8 = true then 1 else 0)), some (.int q), none] [] (wd z m') n 0 0) : ∀ (d c : Nat), c + d = 8 → ∀ m', (∀ j, j < 8 → m' 33 j = nI (sp_r (sp_E g (sp_b wl) fd ea wi) u c j)) → ag [33] m m' → AW mX7_spread Q 51 [some (.ref 4), some (.int (nI s)), some (.int (nI F)), some (.int (nI ea)), some (.int (nI wi)), some (.int wl), some (.ref 33), some (.int (if sp_gr (sp_E g (sp_b wl) fd ea wi) u c = true then 1 else 0)), some (.int q), some (.int (nI c))] [] (wd z m') n 0 0 := by
  intro d
  induction d with
  | zero =>
    intro c hc m' hm hag
    have hc : c = 8 := by omega
    subst hc
    refine r_iload 53 rfl dX7_spread_51 rfl ?_
    refine r_bipush 55 rfl 8 dX7_spread_53 (by decide) ?_
    refine r_icmp_ge 58 91 rfl dX7_spread_55 rfl (fun _ => ?_) (fun q__ => absurd ((nI_leI (a := 8) (b := 8) (by omega) (by omega)).mpr (by omega)) q__)
    refine AW.drop 9 [some (.ref 4), some (.int (nI s)), some (.int (nI F)), some (.int (nI ea)), some (.int (nI wi)), some (.int wl), some (.ref 33), some (.int (if sp_gr (sp_E g (sp_b wl) fd ea wi) u 8 = true then 1 else 0)), some (.int q), none] rfl ?_
    exact kx m' hm hag
  | succ d ih =>
    intro c hc m' hm hag
    have hg5 : m' 5 = m 5 := hag 5 (by decide)
    have hg4 : m' 4 = m 4 := hag 4 (by decide)
    have hg' : ∀ j, j < 8 → m' 5 j = nI (g j) ∧ g j ≤ 2 := fun j hj => by rw [hg5]; exact hg j hj
    have hfd' : m' 4 2 = nI fd := by rw [hg4]; exact hfd
    have hub := sp_r_le (E := (sp_E g (sp_b wl) fd ea wi)) hu c
    have er : sp_r (sp_E g (sp_b wl) fd ea wi) u (c + 1) = sp_w (sp_E g (sp_b wl) fd ea wi) (sp_r (sp_E g (sp_b wl) fd ea wi) u c) c 4 := rfl
    have eg : sp_gr (sp_E g (sp_b wl) fd ea wi) u (c + 1) = (sp_gr (sp_E g (sp_b wl) fd ea wi) u c || sp_gw (sp_E g (sp_b wl) fd ea wi) (sp_r (sp_E g (sp_b wl) fd ea wi) u c) c 4) := rfl
    generalize hv : sp_r (sp_E g (sp_b wl) fd ea wi) u c = v at hm hub er eg
    have hcv := hub c
    refine r_iload 53 rfl dX7_spread_51 rfl ?_
    refine r_bipush 55 rfl 8 dX7_spread_53 (by decide) ?_
    refine r_icmp_ge 58 91 rfl dX7_spread_55 rfl (fun q__ => absurd q__ (fun q__ => absurd ((nI_leI (a := 8) (b := c) (by omega) (by omega)).mp q__) (by omega))) (fun _ => ?_)
    refine r_aload 60 rfl dX7_spread_58 rfl ?_
    refine r_iload 62 rfl dX7_spread_60 rfl ?_
    refine r_iald (f := m' 33) 63 rfl c dX7_spread_62 rfl rfl (by omega) (by decide) ?_
    rw [show (m' 33) c = nI (v c) from hm c (by omega)]
    refine r_if_le 66 85 rfl dX7_spread_63 rfl (fun c63 => ?_) (fun c63 => ?_)
    · replace c63 : v c ≤ 0 := (nI_leI (a := (v c)) (b := 0) (by omega) (by omega)).mp c63
      refine r_iinc 88 rfl (nI (c + 1)) [some (.ref 4), some (.int (nI s)), some (.int (nI F)), some (.int (nI ea)), some (.int (nI wi)), some (.int wl), some (.ref 33), some (.int (if sp_gr (sp_E g (sp_b wl) fd ea wi) u c = true then 1 else 0)), some (.int q), some (.int (nI (c + 1)))] dX7_spread_85 rfl (nI_1 _) (by decide) rfl ?_
      refine r_goto 51 dX7_spread_88 rfl ?_
      rw [show sp_gr (sp_E g (sp_b wl) fd ea wi) u c = sp_gr (sp_E g (sp_b wl) fd ea wi) u (c + 1) by rw [eg, sp_gw_0 (by omega), Bool.or_false]]
      exact ih (c + 1) (by omega) m' (fun j hj => by rw [er, sp_w_eq 4 (sp_gw_0 (by omega))]; exact hm j hj) hag
    · replace c63 : ¬ (v c) ≤ 0 := fun q__ => c63 ((nI_leI (a := (v c)) (b := 0) (by omega) (by omega)).mpr q__)
      refine r_aload_n 67 rfl 0 dX7_spread_66 rfl rfl ?_
      refine r_iload 69 rfl dX7_spread_67 rfl ?_
      refine r_iload_n 70 rfl 3 dX7_spread_69 rfl rfl ?_
      refine r_iload 72 rfl dX7_spread_70 rfl ?_
      refine r_iload 74 rfl dX7_spread_72 rfl ?_
      refine r_aload 76 rfl dX7_spread_74 rfl ?_
      refine q_V 79 0 0 rfl [.int (nI c), .int (nI ea), .int (nI wi), .int wl, .ref 33] rfl dX7_spread_76 cl_X7_spread__X7_spreadOn (lk_X7_40 rfl) im_X7_spreadOn (ci := 7) rfl sl_X7__X7_spreadOn rfl (Nat.le_of_ble_eq_true rfl) (fun _ _ => Nat.le_of_ble_eq_true rfl) rfl rfl (Nat.le_of_ble_eq_true rfl) (Nat.le_of_ble_eq_true rfl) ?_
      refine c_spreadOn_33 g hg' hfd' hf1 hf3 (by omega) hea hwi v hub hm (fun m2 hm2 hag2 => (k_i ?_))
      have hag3 : ag [33] m m2 := ag_t hag hag2 (by simp)
      rcases Bool.eq_false_or_eq_true (sp_gw (sp_E g (sp_b wl) fd ea wi) v c 4) with hgw | hgw
      · rw [if_pos hgw]
        refine r_if_eq 82 85 rfl dX7_spread_79 rfl (fun q__ => absurd q__ (by decide)) (fun _ => ?_)
        refine r_iconst 83 rfl 1 dX7_spread_82 rfl ?_
        refine r_istore 85 rfl [some (.ref 4), some (.int (nI s)), some (.int (nI F)), some (.int (nI ea)), some (.int (nI wi)), some (.int wl), some (.ref 33), some (.int 1), some (.int q), some (.int (nI c))] dX7_spread_83 (by decide) rfl ?_
        refine r_iinc 88 rfl (nI (c + 1)) [some (.ref 4), some (.int (nI s)), some (.int (nI F)), some (.int (nI ea)), some (.int (nI wi)), some (.int wl), some (.ref 33), some (.int 1), some (.int q), some (.int (nI (c + 1)))] dX7_spread_85 rfl (nI_1 _) (by decide) rfl ?_
        refine r_goto 51 dX7_spread_88 rfl ?_
        rw [show (1 : Int32) = (if sp_gr (sp_E g (sp_b wl) fd ea wi) u (c + 1) = true then 1 else 0) by rw [eg, hgw, Bool.or_true, if_pos rfl]]
        exact ih (c + 1) (by omega) m2 (fun j hj => by rw [er]; exact hm2 j hj) hag3
      · rw [if_neg (show ¬ sp_gw (sp_E g (sp_b wl) fd ea wi) v c 4 = true by rw [hgw]; decide)]
        refine r_if_eq 82 85 rfl dX7_spread_79 rfl (fun _ => ?_) (fun q__ => absurd (by decide) q__)
        refine r_iinc 88 rfl (nI (c + 1)) [some (.ref 4), some (.int (nI s)), some (.int (nI F)), some (.int (nI ea)), some (.int (nI wi)), some (.int wl), some (.ref 33), some (.int (if sp_gr (sp_E g (sp_b wl) fd ea wi) u c = true then 1 else 0)), some (.int q), some (.int (nI (c + 1)))] dX7_spread_85 rfl (nI_1 _) (by decide) rfl ?_
        refine r_goto 51 dX7_spread_88 rfl ?_
        rw [show sp_gr (sp_E g (sp_b wl) fd ea wi) u c = sp_gr (sp_E g (sp_b wl) fd ea wi) u (c + 1) by rw [eg, hgw, Bool.or_false]]
        exact ih (c + 1) (by omega) m2 (fun j hj => by rw [er]; exact hm2 j hj) hag3
set_option maxHeartbeats 4000000 in
set_option maxRecDepth 20000 in
theorem lp_spread1_33 {Q : am_P} {z : am_Z} {m : Nat → Nat → Int32} {n : Nat} (g : Nat → Nat) (hg : ∀ j, j < 8 → m 5 j = nI (g j) ∧ g j ≤ 2) {fd : Nat} (hfd : m 4 2 = nI fd) (hf1 : 1 ≤ fd) (hf3 : fd ≤ 3) {s F ea wi : Nat} {wl : Int32} (hs : s < 8) (hF : F ≤ 9) (hea : ea ≤ 1) (hwi : wi ≤ 4) (k : ∀ m', (∀ j, j < 8 → m' 33 j = nI (sp_A (sp_E g (sp_b wl) fd ea wi) s F j)) → ag [33] m m' → Q none (wd z m') n) : ∀ (d q : Nat), q + d = 8 → ∀ m', (∀ j, j < 8 → m' 33 j = nI (sp_i (sp_E g (sp_b wl) fd ea wi) (sp_0 s F) q j)) → ag [33] m m' → AW mX7_spread Q 33 [some (.ref 4), some (.int (nI s)), some (.int (nI F)), some (.int (nI ea)), some (.int (nI wi)), some (.int wl), some (.ref 33), some (.int 1), some (.int (nI q)), none] [] (wd z m') n 0 0 := by
  intro d
  induction d with
  | zero =>
    intro q hq m' hm hag
    have hq : q = 8 := by omega
    subst hq
    refine r_iload 35 rfl dX7_spread_33 rfl ?_
    refine r_bipush 37 rfl 8 dX7_spread_35 (by decide) ?_
    refine r_icmp_ge 40 97 rfl dX7_spread_37 rfl (fun _ => ?_) (fun q__ => absurd ((nI_leI (a := 8) (b := 8) (by omega) (by omega)).mpr (by omega)) q__)
    refine r_return rfl dX7_spread_97 (Nat.le_of_ble_eq_true rfl) (Nat.le_of_ble_eq_true rfl) ?_
    exact k m' hm hag
  | succ d ih =>
    intro q hq m' hm hag
    have hg5 : m' 5 = m 5 := hag 5 (by decide)
    have hg4 : m' 4 = m 4 := hag 4 (by decide)
    have hg' : ∀ j, j < 8 → m' 5 j = nI (g j) ∧ g j ≤ 2 := fun j hj => by rw [hg5]; exact hg j hj
    have hfd' : m' 4 2 = nI fd := by rw [hg4]; exact hfd
    have hub := sp_i_le (E := (sp_E g (sp_b wl) fd ea wi)) (fun j => Nat.le_trans (sp_0_le s F j) hF) q
    have er : sp_i (sp_E g (sp_b wl) fd ea wi) (sp_0 s F) (q + 1) = sp_r (sp_E g (sp_b wl) fd ea wi) (sp_i (sp_E g (sp_b wl) fd ea wi) (sp_0 s F) q) 8 := rfl
    have est : sp_gr (sp_E g (sp_b wl) fd ea wi) (sp_i (sp_E g (sp_b wl) fd ea wi) (sp_0 s F) q) 8 = false → sp_r (sp_E g (sp_b wl) fd ea wi) (sp_i (sp_E g (sp_b wl) fd ea wi) (sp_0 s F) q) 8 = sp_A (sp_E g (sp_b wl) fd ea wi) s F := fun hgr => (sp_r_eq 8 hgr).trans (sp_A_stop (by omega) hgr)
    generalize hv : sp_i (sp_E g (sp_b wl) fd ea wi) (sp_0 s F) q = v at hm hub er est
    refine r_iload 35 rfl dX7_spread_33 rfl ?_
    refine r_bipush 37 rfl 8 dX7_spread_35 (by decide) ?_
    refine r_icmp_ge 40 97 rfl dX7_spread_37 rfl (fun q__ => absurd q__ (fun q__ => absurd ((nI_leI (a := 8) (b := q) (by omega) (by omega)).mp q__) (by omega))) (fun _ => ?_)
    refine r_iload 42 rfl dX7_spread_40 rfl ?_
    refine r_if_eq 45 97 rfl dX7_spread_42 rfl (fun q__ => absurd q__ (by decide)) (fun _ => ?_)
    refine r_iconst 46 rfl 0 dX7_spread_45 rfl ?_
    refine r_istore 48 rfl [some (.ref 4), some (.int (nI s)), some (.int (nI F)), some (.int (nI ea)), some (.int (nI wi)), some (.int wl), some (.ref 33), some (.int 0), some (.int (nI q)), none] dX7_spread_46 (by decide) rfl ?_
    refine r_iconst 49 rfl 0 dX7_spread_48 rfl ?_
    refine r_istore 51 rfl [some (.ref 4), some (.int (nI s)), some (.int (nI F)), some (.int (nI ea)), some (.int (nI wi)), some (.int wl), some (.ref 33), some (.int 0), some (.int (nI q)), some (.int 0)] dX7_spread_49 (by decide) rfl ?_
    rw [show (0 : Int32) = (if sp_gr (sp_E g (sp_b wl) fd ea wi) v 0 = true then 1 else 0) from rfl]
    refine lp_spread2_33 g hg' hfd' hf1 hf3 hs hF hea hwi v hub (fun m2 hm2 hag2 => ?_) 8 0 rfl m' (fun j hj => hm j hj) (ag_r _ _)
    have hag3 : ag [33] m m2 := ag_t hag hag2 (by simp)
    rcases Bool.eq_false_or_eq_true (sp_gr (sp_E g (sp_b wl) fd ea wi) v 8) with hgr | hgr
    · rw [if_pos hgr]
      refine r_iinc 94 rfl (nI (q + 1)) [some (.ref 4), some (.int (nI s)), some (.int (nI F)), some (.int (nI ea)), some (.int (nI wi)), some (.int wl), some (.ref 33), some (.int 1), some (.int (nI (q + 1))), none] dX7_spread_91 rfl (nI_1 _) (by decide) rfl ?_
      refine r_goto 33 dX7_spread_94 rfl ?_
      exact ih (q + 1) (by omega) m2 (fun j hj => by rw [er]; exact hm2 j hj) hag3
    · rw [if_neg (show ¬ sp_gr (sp_E g (sp_b wl) fd ea wi) v 8 = true by rw [hgr]; decide)]
      refine r_iinc 94 rfl (nI (q + 1)) [some (.ref 4), some (.int (nI s)), some (.int (nI F)), some (.int (nI ea)), some (.int (nI wi)), some (.int wl), some (.ref 33), some (.int 0), some (.int (nI (q + 1))), none] dX7_spread_91 rfl (nI_1 _) (by decide) rfl ?_
      refine r_goto 33 dX7_spread_94 rfl ?_
      refine r_iload 35 rfl dX7_spread_33 rfl ?_
      refine r_bipush 37 rfl 8 dX7_spread_35 (by decide) ?_
      refine r_icmp_ge 40 97 rfl dX7_spread_37 rfl (fun c37 => ?_) (fun c37 => ?_)
      · replace c37 : 8 ≤ q + 1 := (nI_leI (a := 8) (b := (q + 1)) (by omega) (by omega)).mp c37
        refine r_return rfl dX7_spread_97 (Nat.le_of_ble_eq_true rfl) (Nat.le_of_ble_eq_true rfl) ?_
        exact k m2 (fun j hj => by rw [← est hgr]; exact hm2 j hj) hag3
      · replace c37 : ¬ 8 ≤ (q + 1) := fun q__ => c37 ((nI_leI (a := 8) (b := (q + 1)) (by omega) (by omega)).mpr q__)
        refine r_iload 42 rfl dX7_spread_40 rfl ?_
        refine r_if_eq 45 97 rfl dX7_spread_42 rfl (fun _ => ?_) (fun q__ => absurd (by decide) q__)
        refine r_return rfl dX7_spread_97 (Nat.le_of_ble_eq_true rfl) (Nat.le_of_ble_eq_true rfl) ?_
        exact k m2 (fun j hj => by rw [← est hgr]; exact hm2 j hj) hag3
set_option maxHeartbeats 4000000 in
set_option maxRecDepth 20000 in
theorem c_spread_33 {Q : am_P} {z : am_Z} {m : Nat → Nat → Int32} {n : Nat} (g : Nat → Nat) (hg : ∀ j, j < 8 → m 5 j = nI (g j) ∧ g j ≤ 2) {fd : Nat} (hfd : m 4 2 = nI fd) (hf1 : 1 ≤ fd) (hf3 : fd ≤ 3) {s F ea wi : Nat} {wl : Int32} (hs : s < 8) (hF : F ≤ 9) (hea : ea ≤ 1) (hwi : wi ≤ 4) (k : ∀ m', (∀ j, j < 8 → m' 33 j = nI (sp_A (sp_E g (sp_b wl) fd ea wi) s F j)) → ag [33] m m' → Q none (wd z m') n) : AW mX7_spread Q 0 (am_ent (am_l mX7_spread) [.ref 4, .int (nI s), .int (nI F), .int (nI ea), .int (nI wi), .int wl, .ref 33]) [] (wd z m) n 0 0 := by
  show AW _ _ 0 [some (.ref 4), some (.int (nI s)), some (.int (nI F)), some (.int (nI ea)), some (.int (nI wi)), some (.int wl), some (.ref 33), none, none, none] [] _ _ 0 0
  refine r_iconst 1 rfl 0 dX7_spread_0 rfl ?_
  refine r_istore 3 rfl [some (.ref 4), some (.int (nI s)), some (.int (nI F)), some (.int (nI ea)), some (.int (nI wi)), some (.int wl), some (.ref 33), some (.int 0), none, none] dX7_spread_1 (by decide) rfl ?_
  refine lp_spread0_33 (fun m1 hm1 hag1 => ?_) 8 0 rfl m (fun j hj => absurd hj (Nat.not_lt_zero j)) (ag_r _ _)
  refine r_aload 24 rfl dX7_spread_22 rfl ?_
  refine r_iload_n 25 rfl 1 dX7_spread_24 rfl rfl ?_
  refine r_iload_n 26 rfl 2 dX7_spread_25 rfl rfl ?_
  refine w_iast 27 rfl s (va_up m1 33 (upd (m1 33) s (nI F))) dX7_spread_26 (by decide) (by decide) (fun _ => rfl) rfl (by omega) (by decide) rfl ?_
  refine r_iconst 28 rfl 1 dX7_spread_27 rfl ?_
  refine r_istore 30 rfl [some (.ref 4), some (.int (nI s)), some (.int (nI F)), some (.int (nI ea)), some (.int (nI wi)), some (.int wl), some (.ref 33), some (.int 1), none, none] dX7_spread_28 (by decide) rfl ?_
  refine r_iconst 31 rfl 0 dX7_spread_30 rfl ?_
  refine r_istore 33 rfl [some (.ref 4), some (.int (nI s)), some (.int (nI F)), some (.int (nI ea)), some (.int (nI wi)), some (.int wl), some (.ref 33), some (.int 1), some (.int 0), none] dX7_spread_31 (by decide) rfl ?_
  refine lp_spread1_33 g hg hfd hf1 hf3 hs hF hea hwi k 8 0 rfl _ (fun j hj => ?_) (ag_up hag1 (by decide))
  rw [va_up_self]
  unfold upd
  show _ = nI (sp_0 s F j)
  unfold sp_0
  by_cases hjs : j = s
  · rw [if_pos hjs, if_pos hjs]
  · rw [if_neg hjs, if_neg hjs]; exact hm1 j hj

set_option maxHeartbeats 4000000 in
set_option maxRecDepth 20000 in
theorem lp_spread0_32 {Q : am_P} {z : am_Z} {m : Nat → Nat → Int32} {n : Nat} {s F ea wi : Nat} {wl : Int32} (kx : ∀ m', (∀ j, j < 8 → m' 32 j = 0) → ag [32] m m' → AW mX7_spread Q 22 [some (.ref 4), some (.int (nI s)), some (.int (nI F)), some (.int (nI ea)), some (.int (nI wi)), some (.int wl), some (.ref 32), none, none, none] [] (wd z m') n 0 0) : ∀ (d c : Nat), c + d = 8 → ∀ m', (∀ j, j < c → m' 32 j = 0) → ag [32] m m' → AW mX7_spread Q 3 [some (.ref 4), some (.int (nI s)), some (.int (nI F)), some (.int (nI ea)), some (.int (nI wi)), some (.int wl), some (.ref 32), some (.int (nI c)), none, none] [] (wd z m') n 0 0 := by
  intro d
  induction d with
  | zero =>
    intro c hc m' hm hag
    have hc : c = 8 := by omega
    subst hc
    refine r_iload 5 rfl dX7_spread_3 rfl ?_
    refine r_bipush 7 rfl 8 dX7_spread_5 (by decide) ?_
    refine r_icmp_ge 10 22 rfl dX7_spread_7 rfl (fun _ => ?_) (fun q__ => absurd ((nI_leI (a := 8) (b := 8) (by omega) (by omega)).mpr (by omega)) q__)
    refine AW.drop 7 [some (.ref 4), some (.int (nI s)), some (.int (nI F)), some (.int (nI ea)), some (.int (nI wi)), some (.int wl), some (.ref 32), none, none, none] rfl ?_
    exact kx m' hm hag
  | succ d ih =>
    intro c hc m' hm hag
    refine r_iload 5 rfl dX7_spread_3 rfl ?_
    refine r_bipush 7 rfl 8 dX7_spread_5 (by decide) ?_
    refine r_icmp_ge 10 22 rfl dX7_spread_7 rfl (fun q__ => absurd q__ (fun q__ => absurd ((nI_leI (a := 8) (b := c) (by omega) (by omega)).mp q__) (by omega))) (fun _ => ?_)
    refine r_aload 12 rfl dX7_spread_10 rfl ?_
    refine r_iload 14 rfl dX7_spread_12 rfl ?_
    refine r_iconst 15 rfl 0 dX7_spread_14 rfl ?_
    refine w_iast 16 rfl c (va_up m' 32 (upd (m' 32) c 0)) dX7_spread_15 (by decide) (by decide) (fun _ => rfl) rfl (by omega) (by decide) rfl ?_
    refine r_iinc 19 rfl (nI (c + 1)) [some (.ref 4), some (.int (nI s)), some (.int (nI F)), some (.int (nI ea)), some (.int (nI wi)), some (.int wl), some (.ref 32), some (.int (nI (c + 1))), none, none] dX7_spread_16 rfl (nI_1 _) (by decide) rfl ?_
    refine r_goto 3 dX7_spread_19 rfl ?_
    refine ih (c + 1) (by omega) _ (fun j hj => ?_) (ag_up hag (by decide))
    rw [va_up_self]
    unfold upd
    by_cases hjc : j = c
    · rw [if_pos hjc]
    · rw [if_neg hjc]; exact hm j (by omega)
set_option maxHeartbeats 4000000 in
set_option maxRecDepth 20000 in
theorem lp_spread2_32 {Q : am_P} {z : am_Z} {m : Nat → Nat → Int32} {n : Nat} (g : Nat → Nat) (hg : ∀ j, j < 8 → m 5 j = nI (g j) ∧ g j ≤ 2) {fd : Nat} (hfd : m 4 2 = nI fd) (hf1 : 1 ≤ fd) (hf3 : fd ≤ 3) {s F ea wi : Nat} {wl : Int32} (hs : s < 8) (hF : F ≤ 9) (hea : ea ≤ 1) (hwi : wi ≤ 4) (u : Nat → Nat) (hu : ∀ j, u j ≤ 9) {q : Int32} (kx : ∀ m', (∀ j, j < 8 → m' 32 j = nI (sp_r (sp_E g (sp_b wl) fd ea wi) u 8 j)) → ag [32] m m' → AW mX7_spread Q 91 [some (.ref 4), some (.int (nI s)), some (.int (nI F)), some (.int (nI ea)), some (.int (nI wi)), some (.int wl), some (.ref 32), some (.int (if sp_gr (sp_E g (sp_b wl) fd ea wi) u 8 = true then 1 else 0)), some (.int q), none] [] (wd z m') n 0 0) : ∀ (d c : Nat), c + d = 8 → ∀ m', (∀ j, j < 8 → m' 32 j = nI (sp_r (sp_E g (sp_b wl) fd ea wi) u c j)) → ag [32] m m' → AW mX7_spread Q 51 [some (.ref 4), some (.int (nI s)), some (.int (nI F)), some (.int (nI ea)), some (.int (nI wi)), some (.int wl), some (.ref 32), some (.int (if sp_gr (sp_E g (sp_b wl) fd ea wi) u c = true then 1 else 0)), some (.int q), some (.int (nI c))] [] (wd z m') n 0 0 := by
  intro d
  induction d with
  | zero =>
    intro c hc m' hm hag
    have hc : c = 8 := by omega
    subst hc
    refine r_iload 53 rfl dX7_spread_51 rfl ?_
    refine r_bipush 55 rfl 8 dX7_spread_53 (by decide) ?_
    refine r_icmp_ge 58 91 rfl dX7_spread_55 rfl (fun _ => ?_) (fun q__ => absurd ((nI_leI (a := 8) (b := 8) (by omega) (by omega)).mpr (by omega)) q__)
    refine AW.drop 9 [some (.ref 4), some (.int (nI s)), some (.int (nI F)), some (.int (nI ea)), some (.int (nI wi)), some (.int wl), some (.ref 32), some (.int (if sp_gr (sp_E g (sp_b wl) fd ea wi) u 8 = true then 1 else 0)), some (.int q), none] rfl ?_
    exact kx m' hm hag
  | succ d ih =>
    intro c hc m' hm hag
    have hg5 : m' 5 = m 5 := hag 5 (by decide)
    have hg4 : m' 4 = m 4 := hag 4 (by decide)
    have hg' : ∀ j, j < 8 → m' 5 j = nI (g j) ∧ g j ≤ 2 := fun j hj => by rw [hg5]; exact hg j hj
    have hfd' : m' 4 2 = nI fd := by rw [hg4]; exact hfd
    have hub := sp_r_le (E := (sp_E g (sp_b wl) fd ea wi)) hu c
    have er : sp_r (sp_E g (sp_b wl) fd ea wi) u (c + 1) = sp_w (sp_E g (sp_b wl) fd ea wi) (sp_r (sp_E g (sp_b wl) fd ea wi) u c) c 4 := rfl
    have eg : sp_gr (sp_E g (sp_b wl) fd ea wi) u (c + 1) = (sp_gr (sp_E g (sp_b wl) fd ea wi) u c || sp_gw (sp_E g (sp_b wl) fd ea wi) (sp_r (sp_E g (sp_b wl) fd ea wi) u c) c 4) := rfl
    generalize hv : sp_r (sp_E g (sp_b wl) fd ea wi) u c = v at hm hub er eg
    have hcv := hub c
    refine r_iload 53 rfl dX7_spread_51 rfl ?_
    refine r_bipush 55 rfl 8 dX7_spread_53 (by decide) ?_
    refine r_icmp_ge 58 91 rfl dX7_spread_55 rfl (fun q__ => absurd q__ (fun q__ => absurd ((nI_leI (a := 8) (b := c) (by omega) (by omega)).mp q__) (by omega))) (fun _ => ?_)
    refine r_aload 60 rfl dX7_spread_58 rfl ?_
    refine r_iload 62 rfl dX7_spread_60 rfl ?_
    refine r_iald (f := m' 32) 63 rfl c dX7_spread_62 rfl rfl (by omega) (by decide) ?_
    rw [show (m' 32) c = nI (v c) from hm c (by omega)]
    refine r_if_le 66 85 rfl dX7_spread_63 rfl (fun c63 => ?_) (fun c63 => ?_)
    · replace c63 : v c ≤ 0 := (nI_leI (a := (v c)) (b := 0) (by omega) (by omega)).mp c63
      refine r_iinc 88 rfl (nI (c + 1)) [some (.ref 4), some (.int (nI s)), some (.int (nI F)), some (.int (nI ea)), some (.int (nI wi)), some (.int wl), some (.ref 32), some (.int (if sp_gr (sp_E g (sp_b wl) fd ea wi) u c = true then 1 else 0)), some (.int q), some (.int (nI (c + 1)))] dX7_spread_85 rfl (nI_1 _) (by decide) rfl ?_
      refine r_goto 51 dX7_spread_88 rfl ?_
      rw [show sp_gr (sp_E g (sp_b wl) fd ea wi) u c = sp_gr (sp_E g (sp_b wl) fd ea wi) u (c + 1) by rw [eg, sp_gw_0 (by omega), Bool.or_false]]
      exact ih (c + 1) (by omega) m' (fun j hj => by rw [er, sp_w_eq 4 (sp_gw_0 (by omega))]; exact hm j hj) hag
    · replace c63 : ¬ (v c) ≤ 0 := fun q__ => c63 ((nI_leI (a := (v c)) (b := 0) (by omega) (by omega)).mpr q__)
      refine r_aload_n 67 rfl 0 dX7_spread_66 rfl rfl ?_
      refine r_iload 69 rfl dX7_spread_67 rfl ?_
      refine r_iload_n 70 rfl 3 dX7_spread_69 rfl rfl ?_
      refine r_iload 72 rfl dX7_spread_70 rfl ?_
      refine r_iload 74 rfl dX7_spread_72 rfl ?_
      refine r_aload 76 rfl dX7_spread_74 rfl ?_
      refine q_V 79 0 0 rfl [.int (nI c), .int (nI ea), .int (nI wi), .int wl, .ref 32] rfl dX7_spread_76 cl_X7_spread__X7_spreadOn (lk_X7_40 rfl) im_X7_spreadOn (ci := 7) rfl sl_X7__X7_spreadOn rfl (Nat.le_of_ble_eq_true rfl) (fun _ _ => Nat.le_of_ble_eq_true rfl) rfl rfl (Nat.le_of_ble_eq_true rfl) (Nat.le_of_ble_eq_true rfl) ?_
      refine c_spreadOn_32 g hg' hfd' hf1 hf3 (by omega) hea hwi v hub hm (fun m2 hm2 hag2 => (k_i ?_))
      have hag3 : ag [32] m m2 := ag_t hag hag2 (by simp)
      rcases Bool.eq_false_or_eq_true (sp_gw (sp_E g (sp_b wl) fd ea wi) v c 4) with hgw | hgw
      · rw [if_pos hgw]
        refine r_if_eq 82 85 rfl dX7_spread_79 rfl (fun q__ => absurd q__ (by decide)) (fun _ => ?_)
        refine r_iconst 83 rfl 1 dX7_spread_82 rfl ?_
        refine r_istore 85 rfl [some (.ref 4), some (.int (nI s)), some (.int (nI F)), some (.int (nI ea)), some (.int (nI wi)), some (.int wl), some (.ref 32), some (.int 1), some (.int q), some (.int (nI c))] dX7_spread_83 (by decide) rfl ?_
        refine r_iinc 88 rfl (nI (c + 1)) [some (.ref 4), some (.int (nI s)), some (.int (nI F)), some (.int (nI ea)), some (.int (nI wi)), some (.int wl), some (.ref 32), some (.int 1), some (.int q), some (.int (nI (c + 1)))] dX7_spread_85 rfl (nI_1 _) (by decide) rfl ?_
        refine r_goto 51 dX7_spread_88 rfl ?_
        rw [show (1 : Int32) = (if sp_gr (sp_E g (sp_b wl) fd ea wi) u (c + 1) = true then 1 else 0) by rw [eg, hgw, Bool.or_true, if_pos rfl]]
        exact ih (c + 1) (by omega) m2 (fun j hj => by rw [er]; exact hm2 j hj) hag3
      · rw [if_neg (show ¬ sp_gw (sp_E g (sp_b wl) fd ea wi) v c 4 = true by rw [hgw]; decide)]
        refine r_if_eq 82 85 rfl dX7_spread_79 rfl (fun _ => ?_) (fun q__ => absurd (by decide) q__)
        refine r_iinc 88 rfl (nI (c + 1)) [some (.ref 4), some (.int (nI s)), some (.int (nI F)), some (.int (nI ea)), some (.int (nI wi)), some (.int wl), some (.ref 32), some (.int (if sp_gr (sp_E g (sp_b wl) fd ea wi) u c = true then 1 else 0)), some (.int q), some (.int (nI (c + 1)))] dX7_spread_85 rfl (nI_1 _) (by decide) rfl ?_
        refine r_goto 51 dX7_spread_88 rfl ?_
        rw [show sp_gr (sp_E g (sp_b wl) fd ea wi) u c = sp_gr (sp_E g (sp_b wl) fd ea wi) u (c + 1) by rw [eg, hgw, Bool.or_false]]
        exact ih (c + 1) (by omega) m2 (fun j hj => by rw [er]; exact hm2 j hj) hag3
set_option maxHeartbeats 4000000 in
set_option maxRecDepth 20000 in
theorem lp_spread1_32 {Q : am_P} {z : am_Z} {m : Nat → Nat → Int32} {n : Nat} (g : Nat → Nat) (hg : ∀ j, j < 8 → m 5 j = nI (g j) ∧ g j ≤ 2) {fd : Nat} (hfd : m 4 2 = nI fd) (hf1 : 1 ≤ fd) (hf3 : fd ≤ 3) {s F ea wi : Nat} {wl : Int32} (hs : s < 8) (hF : F ≤ 9) (hea : ea ≤ 1) (hwi : wi ≤ 4) (k : ∀ m', (∀ j, j < 8 → m' 32 j = nI (sp_A (sp_E g (sp_b wl) fd ea wi) s F j)) → ag [32] m m' → Q none (wd z m') n) : ∀ (d q : Nat), q + d = 8 → ∀ m', (∀ j, j < 8 → m' 32 j = nI (sp_i (sp_E g (sp_b wl) fd ea wi) (sp_0 s F) q j)) → ag [32] m m' → AW mX7_spread Q 33 [some (.ref 4), some (.int (nI s)), some (.int (nI F)), some (.int (nI ea)), some (.int (nI wi)), some (.int wl), some (.ref 32), some (.int 1), some (.int (nI q)), none] [] (wd z m') n 0 0 := by
  intro d
  induction d with
  | zero =>
    intro q hq m' hm hag
    have hq : q = 8 := by omega
    subst hq
    refine r_iload 35 rfl dX7_spread_33 rfl ?_
    refine r_bipush 37 rfl 8 dX7_spread_35 (by decide) ?_
    refine r_icmp_ge 40 97 rfl dX7_spread_37 rfl (fun _ => ?_) (fun q__ => absurd ((nI_leI (a := 8) (b := 8) (by omega) (by omega)).mpr (by omega)) q__)
    refine r_return rfl dX7_spread_97 (Nat.le_of_ble_eq_true rfl) (Nat.le_of_ble_eq_true rfl) ?_
    exact k m' hm hag
  | succ d ih =>
    intro q hq m' hm hag
    have hg5 : m' 5 = m 5 := hag 5 (by decide)
    have hg4 : m' 4 = m 4 := hag 4 (by decide)
    have hg' : ∀ j, j < 8 → m' 5 j = nI (g j) ∧ g j ≤ 2 := fun j hj => by rw [hg5]; exact hg j hj
    have hfd' : m' 4 2 = nI fd := by rw [hg4]; exact hfd
    have hub := sp_i_le (E := (sp_E g (sp_b wl) fd ea wi)) (fun j => Nat.le_trans (sp_0_le s F j) hF) q
    have er : sp_i (sp_E g (sp_b wl) fd ea wi) (sp_0 s F) (q + 1) = sp_r (sp_E g (sp_b wl) fd ea wi) (sp_i (sp_E g (sp_b wl) fd ea wi) (sp_0 s F) q) 8 := rfl
    have est : sp_gr (sp_E g (sp_b wl) fd ea wi) (sp_i (sp_E g (sp_b wl) fd ea wi) (sp_0 s F) q) 8 = false → sp_r (sp_E g (sp_b wl) fd ea wi) (sp_i (sp_E g (sp_b wl) fd ea wi) (sp_0 s F) q) 8 = sp_A (sp_E g (sp_b wl) fd ea wi) s F := fun hgr => (sp_r_eq 8 hgr).trans (sp_A_stop (by omega) hgr)
    generalize hv : sp_i (sp_E g (sp_b wl) fd ea wi) (sp_0 s F) q = v at hm hub er est
    refine r_iload 35 rfl dX7_spread_33 rfl ?_
    refine r_bipush 37 rfl 8 dX7_spread_35 (by decide) ?_
    refine r_icmp_ge 40 97 rfl dX7_spread_37 rfl (fun q__ => absurd q__ (fun q__ => absurd ((nI_leI (a := 8) (b := q) (by omega) (by omega)).mp q__) (by omega))) (fun _ => ?_)
    refine r_iload 42 rfl dX7_spread_40 rfl ?_
    refine r_if_eq 45 97 rfl dX7_spread_42 rfl (fun q__ => absurd q__ (by decide)) (fun _ => ?_)
    refine r_iconst 46 rfl 0 dX7_spread_45 rfl ?_
    refine r_istore 48 rfl [some (.ref 4), some (.int (nI s)), some (.int (nI F)), some (.int (nI ea)), some (.int (nI wi)), some (.int wl), some (.ref 32), some (.int 0), some (.int (nI q)), none] dX7_spread_46 (by decide) rfl ?_
    refine r_iconst 49 rfl 0 dX7_spread_48 rfl ?_
    refine r_istore 51 rfl [some (.ref 4), some (.int (nI s)), some (.int (nI F)), some (.int (nI ea)), some (.int (nI wi)), some (.int wl), some (.ref 32), some (.int 0), some (.int (nI q)), some (.int 0)] dX7_spread_49 (by decide) rfl ?_
    rw [show (0 : Int32) = (if sp_gr (sp_E g (sp_b wl) fd ea wi) v 0 = true then 1 else 0) from rfl]
    refine lp_spread2_32 g hg' hfd' hf1 hf3 hs hF hea hwi v hub (fun m2 hm2 hag2 => ?_) 8 0 rfl m' (fun j hj => hm j hj) (ag_r _ _)
    have hag3 : ag [32] m m2 := ag_t hag hag2 (by simp)
    rcases Bool.eq_false_or_eq_true (sp_gr (sp_E g (sp_b wl) fd ea wi) v 8) with hgr | hgr
    · rw [if_pos hgr]
      refine r_iinc 94 rfl (nI (q + 1)) [some (.ref 4), some (.int (nI s)), some (.int (nI F)), some (.int (nI ea)), some (.int (nI wi)), some (.int wl), some (.ref 32), some (.int 1), some (.int (nI (q + 1))), none] dX7_spread_91 rfl (nI_1 _) (by decide) rfl ?_
      refine r_goto 33 dX7_spread_94 rfl ?_
      exact ih (q + 1) (by omega) m2 (fun j hj => by rw [er]; exact hm2 j hj) hag3
    · rw [if_neg (show ¬ sp_gr (sp_E g (sp_b wl) fd ea wi) v 8 = true by rw [hgr]; decide)]
      refine r_iinc 94 rfl (nI (q + 1)) [some (.ref 4), some (.int (nI s)), some (.int (nI F)), some (.int (nI ea)), some (.int (nI wi)), some (.int wl), some (.ref 32), some (.int 0), some (.int (nI (q + 1))), none] dX7_spread_91 rfl (nI_1 _) (by decide) rfl ?_
      refine r_goto 33 dX7_spread_94 rfl ?_
      refine r_iload 35 rfl dX7_spread_33 rfl ?_
      refine r_bipush 37 rfl 8 dX7_spread_35 (by decide) ?_
      refine r_icmp_ge 40 97 rfl dX7_spread_37 rfl (fun c37 => ?_) (fun c37 => ?_)
      · replace c37 : 8 ≤ q + 1 := (nI_leI (a := 8) (b := (q + 1)) (by omega) (by omega)).mp c37
        refine r_return rfl dX7_spread_97 (Nat.le_of_ble_eq_true rfl) (Nat.le_of_ble_eq_true rfl) ?_
        exact k m2 (fun j hj => by rw [← est hgr]; exact hm2 j hj) hag3
      · replace c37 : ¬ 8 ≤ (q + 1) := fun q__ => c37 ((nI_leI (a := 8) (b := (q + 1)) (by omega) (by omega)).mpr q__)
        refine r_iload 42 rfl dX7_spread_40 rfl ?_
        refine r_if_eq 45 97 rfl dX7_spread_42 rfl (fun _ => ?_) (fun q__ => absurd (by decide) q__)
        refine r_return rfl dX7_spread_97 (Nat.le_of_ble_eq_true rfl) (Nat.le_of_ble_eq_true rfl) ?_
        exact k m2 (fun j hj => by rw [← est hgr]; exact hm2 j hj) hag3
set_option maxHeartbeats 4000000 in
set_option maxRecDepth 20000 in
theorem c_spread_32 {Q : am_P} {z : am_Z} {m : Nat → Nat → Int32} {n : Nat} (g : Nat → Nat) (hg : ∀ j, j < 8 → m 5 j = nI (g j) ∧ g j ≤ 2) {fd : Nat} (hfd : m 4 2 = nI fd) (hf1 : 1 ≤ fd) (hf3 : fd ≤ 3) {s F ea wi : Nat} {wl : Int32} (hs : s < 8) (hF : F ≤ 9) (hea : ea ≤ 1) (hwi : wi ≤ 4) (k : ∀ m', (∀ j, j < 8 → m' 32 j = nI (sp_A (sp_E g (sp_b wl) fd ea wi) s F j)) → ag [32] m m' → Q none (wd z m') n) : AW mX7_spread Q 0 (am_ent (am_l mX7_spread) [.ref 4, .int (nI s), .int (nI F), .int (nI ea), .int (nI wi), .int wl, .ref 32]) [] (wd z m) n 0 0 := by
  show AW _ _ 0 [some (.ref 4), some (.int (nI s)), some (.int (nI F)), some (.int (nI ea)), some (.int (nI wi)), some (.int wl), some (.ref 32), none, none, none] [] _ _ 0 0
  refine r_iconst 1 rfl 0 dX7_spread_0 rfl ?_
  refine r_istore 3 rfl [some (.ref 4), some (.int (nI s)), some (.int (nI F)), some (.int (nI ea)), some (.int (nI wi)), some (.int wl), some (.ref 32), some (.int 0), none, none] dX7_spread_1 (by decide) rfl ?_
  refine lp_spread0_32 (fun m1 hm1 hag1 => ?_) 8 0 rfl m (fun j hj => absurd hj (Nat.not_lt_zero j)) (ag_r _ _)
  refine r_aload 24 rfl dX7_spread_22 rfl ?_
  refine r_iload_n 25 rfl 1 dX7_spread_24 rfl rfl ?_
  refine r_iload_n 26 rfl 2 dX7_spread_25 rfl rfl ?_
  refine w_iast 27 rfl s (va_up m1 32 (upd (m1 32) s (nI F))) dX7_spread_26 (by decide) (by decide) (fun _ => rfl) rfl (by omega) (by decide) rfl ?_
  refine r_iconst 28 rfl 1 dX7_spread_27 rfl ?_
  refine r_istore 30 rfl [some (.ref 4), some (.int (nI s)), some (.int (nI F)), some (.int (nI ea)), some (.int (nI wi)), some (.int wl), some (.ref 32), some (.int 1), none, none] dX7_spread_28 (by decide) rfl ?_
  refine r_iconst 31 rfl 0 dX7_spread_30 rfl ?_
  refine r_istore 33 rfl [some (.ref 4), some (.int (nI s)), some (.int (nI F)), some (.int (nI ea)), some (.int (nI wi)), some (.int wl), some (.ref 32), some (.int 1), some (.int 0), none] dX7_spread_31 (by decide) rfl ?_
  refine lp_spread1_32 g hg hfd hf1 hf3 hs hF hea hwi k 8 0 rfl _ (fun j hj => ?_) (ag_up hag1 (by decide))
  rw [va_up_self]
  unfold upd
  show _ = nI (sp_0 s F j)
  unfold sp_0
  by_cases hjs : j = s
  · rw [if_pos hjs, if_pos hjs]
  · rw [if_neg hjs, if_neg hjs]; exact hm1 j hj
