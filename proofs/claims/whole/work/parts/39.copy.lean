section AMZ2
variable {M : am_M} {Q : am_P} {pc : Nat} {lv : List (Option Value)} {st : List Value} {z : am_Z} {m : Nat → Nat → Int32} {n cu su : Nat}
theorem w_copy (pc' : Nat) (hp : pc + 3 = pc') {idx a0 a1 N : Nat} {i : Int32} {f : Nat → Int32} (hd : decode (am_c M) pc = .ok (.invokestatic idx, 3)) (hl : Cond.methodLink (am_y M).cls idx arraycopyName ∈ am_T) (h1 : 0 < a0) (h2 : 0 < a1) (h3 : a1 ≤ 53) (he0 : wd z m a0 = .inl (0, N, f)) (he : ∀ g, wc a1 g z = .inl (0, N, g)) (hi : i = nI N) (hN : N ≤ 1000) (hfr : 1 ≤ am_fr M) (hlo : (st.map fun v => v.category).sum + (nativeFrameWords "java/lang/System" "arraycopy" 5 + 11) ≤ am_lo M) (m' : Nat → Nat → Int32) (hm : va_up m a1 (va_cpy f (m a1) 0 0 N) = m')
    (kk : AW M Q pc' lv st (wd z m') n cu su) : AW M Q pc lv (.int i :: .int 0 :: .ref a1 :: .int 0 :: .ref a0 :: st) (wd z m) n cu su := by
  subst hm
  refine r_copy pc' hp hd hl h1 h2 he0 (g := m a1) ?_ hi hN hfr hlo ?_
  · unfold wd
    rw [if_neg (by omega), if_pos h3]
    exact he _
  · rw [wd_up h2 h3 (he _)]
    exact kk
end AMZ2

set_option maxHeartbeats 4000000 in
set_option maxRecDepth 20000 in
theorem lp_cp_39_46 {Q : am_P} {z : am_Z} {m : Nat → Nat → Int32} {n : Nat} (k : ∀ m', (∀ j, j < 8 → m' 46 j = m 39 j) → ag [46] m m' → Q none (wd z m') n) : ∀ (d c : Nat), c + d = 8 → ∀ m', (∀ j, j < c → m' 46 j = m 39 j) → ag [46] m m' → AW mX10_copy Q 2 [some (.ref 39), some (.ref 46), some (.int (nI c))] [] (wd z m') n 0 0 := by
  intro d
  induction d with
  | zero =>
    intro c hc m' h0 hag
    obtain rfl : c = 8 := by omega
    refine r_iload_n 3 rfl 2 dX10_copy_2 rfl rfl ?_
    refine r_aload_n 4 rfl 0 dX10_copy_3 rfl rfl ?_
    refine r_alen 5 rfl dX10_copy_4 rfl ?_
    refine r_icmp_ge 8 20 rfl dX10_copy_5 rfl (fun _ => ?_) (fun q__ => absurd ((nI_leI (a := 8) (b := 8) (by omega) (by omega)).mpr (by omega)) q__)
    refine r_return rfl dX10_copy_20 (Nat.le_of_ble_eq_true rfl) (Nat.le_of_ble_eq_true rfl) ?_
    exact k m' h0 hag
  | succ d ih =>
    intro c hc m' h0 hag
    have eA : m' 39 c = m 39 c := by rw [hag 39 (by decide)]
    refine r_iload_n 3 rfl 2 dX10_copy_2 rfl rfl ?_
    refine r_aload_n 4 rfl 0 dX10_copy_3 rfl rfl ?_
    refine r_alen 5 rfl dX10_copy_4 rfl ?_
    refine r_icmp_ge 8 20 rfl dX10_copy_5 rfl (fun q__ => absurd q__ (fun q__ => absurd ((nI_leI (a := 8) (b := c) (by omega) (by omega)).mp q__) (by omega))) (fun _ => ?_)
    refine r_aload_n 9 rfl 1 dX10_copy_8 rfl rfl ?_
    refine r_iload_n 10 rfl 2 dX10_copy_9 rfl rfl ?_
    refine r_aload_n 11 rfl 0 dX10_copy_10 rfl rfl ?_
    refine r_iload_n 12 rfl 2 dX10_copy_11 rfl rfl ?_
    refine r_iald (f := m' 39) 13 rfl c dX10_copy_12 rfl rfl (by omega) (by decide) ?_
    rw [show (m' 39) c = m 39 c from eA]
    refine w_iast 14 rfl c (va_up m' 46 (upd (m' 46) c (m 39 c))) dX10_copy_13 (by decide) (by decide) (fun _ => rfl) rfl (by omega) (by decide) rfl ?_
    refine r_iinc 17 rfl (nI (c + 1)) [some (.ref 39), some (.ref 46), some (.int (nI (c + 1)))] dX10_copy_14 rfl (nI_1 _) (by decide) rfl ?_
    refine r_goto 2 dX10_copy_17 rfl ?_
    refine ih (c + 1) (by omega) _ (fun j hj => ?_) (ag_up hag (by decide))
    rw [va_up_self]; unfold upd
    by_cases h : j = c
    · rw [if_pos h, h]
    · rw [if_neg h]; exact h0 j (by omega)
set_option maxHeartbeats 4000000 in
set_option maxRecDepth 20000 in
theorem c_cp_39_46 {Q : am_P} {z : am_Z} {m : Nat → Nat → Int32} {n : Nat}  (k : ∀ m', (∀ j, j < 8 → m' 46 j = m 39 j) → ag [46] m m' → Q none (wd z m') n) : AW mX10_copy Q 0 (am_ent (am_l mX10_copy) [.ref 39, .ref 46]) [] (wd z m) n 0 0 := by
  show AW _ _ 0 [some (.ref 39), some (.ref 46), none] [] _ _ 0 0
  refine r_iconst 1 rfl 0 dX10_copy_0 rfl ?_
  refine r_istore_n 2 rfl 2 [some (.ref 39), some (.ref 46), some (.int 0)] dX10_copy_1 rfl (by decide) rfl ?_
  exact lp_cp_39_46 k 8 0 rfl m (fun j hj => absurd hj (Nat.not_lt_zero j)) (ag_r _ _)

set_option maxHeartbeats 4000000 in
set_option maxRecDepth 20000 in
theorem lp_cp_46_39 {Q : am_P} {z : am_Z} {m : Nat → Nat → Int32} {n : Nat} (k : ∀ m', (∀ j, j < 8 → m' 39 j = m 46 j) → ag [39] m m' → Q none (wd z m') n) : ∀ (d c : Nat), c + d = 8 → ∀ m', (∀ j, j < c → m' 39 j = m 46 j) → ag [39] m m' → AW mX10_copy Q 2 [some (.ref 46), some (.ref 39), some (.int (nI c))] [] (wd z m') n 0 0 := by
  intro d
  induction d with
  | zero =>
    intro c hc m' h0 hag
    obtain rfl : c = 8 := by omega
    refine r_iload_n 3 rfl 2 dX10_copy_2 rfl rfl ?_
    refine r_aload_n 4 rfl 0 dX10_copy_3 rfl rfl ?_
    refine r_alen 5 rfl dX10_copy_4 rfl ?_
    refine r_icmp_ge 8 20 rfl dX10_copy_5 rfl (fun _ => ?_) (fun q__ => absurd ((nI_leI (a := 8) (b := 8) (by omega) (by omega)).mpr (by omega)) q__)
    refine r_return rfl dX10_copy_20 (Nat.le_of_ble_eq_true rfl) (Nat.le_of_ble_eq_true rfl) ?_
    exact k m' h0 hag
  | succ d ih =>
    intro c hc m' h0 hag
    have eA : m' 46 c = m 46 c := by rw [hag 46 (by decide)]
    refine r_iload_n 3 rfl 2 dX10_copy_2 rfl rfl ?_
    refine r_aload_n 4 rfl 0 dX10_copy_3 rfl rfl ?_
    refine r_alen 5 rfl dX10_copy_4 rfl ?_
    refine r_icmp_ge 8 20 rfl dX10_copy_5 rfl (fun q__ => absurd q__ (fun q__ => absurd ((nI_leI (a := 8) (b := c) (by omega) (by omega)).mp q__) (by omega))) (fun _ => ?_)
    refine r_aload_n 9 rfl 1 dX10_copy_8 rfl rfl ?_
    refine r_iload_n 10 rfl 2 dX10_copy_9 rfl rfl ?_
    refine r_aload_n 11 rfl 0 dX10_copy_10 rfl rfl ?_
    refine r_iload_n 12 rfl 2 dX10_copy_11 rfl rfl ?_
    refine r_iald (f := m' 46) 13 rfl c dX10_copy_12 rfl rfl (by omega) (by decide) ?_
    rw [show (m' 46) c = m 46 c from eA]
    refine w_iast 14 rfl c (va_up m' 39 (upd (m' 39) c (m 46 c))) dX10_copy_13 (by decide) (by decide) (fun _ => rfl) rfl (by omega) (by decide) rfl ?_
    refine r_iinc 17 rfl (nI (c + 1)) [some (.ref 46), some (.ref 39), some (.int (nI (c + 1)))] dX10_copy_14 rfl (nI_1 _) (by decide) rfl ?_
    refine r_goto 2 dX10_copy_17 rfl ?_
    refine ih (c + 1) (by omega) _ (fun j hj => ?_) (ag_up hag (by decide))
    rw [va_up_self]; unfold upd
    by_cases h : j = c
    · rw [if_pos h, h]
    · rw [if_neg h]; exact h0 j (by omega)
set_option maxHeartbeats 4000000 in
set_option maxRecDepth 20000 in
theorem c_cp_46_39 {Q : am_P} {z : am_Z} {m : Nat → Nat → Int32} {n : Nat}  (k : ∀ m', (∀ j, j < 8 → m' 39 j = m 46 j) → ag [39] m m' → Q none (wd z m') n) : AW mX10_copy Q 0 (am_ent (am_l mX10_copy) [.ref 46, .ref 39]) [] (wd z m) n 0 0 := by
  show AW _ _ 0 [some (.ref 46), some (.ref 39), none] [] _ _ 0 0
  refine r_iconst 1 rfl 0 dX10_copy_0 rfl ?_
  refine r_istore_n 2 rfl 2 [some (.ref 46), some (.ref 39), some (.int 0)] dX10_copy_1 rfl (by decide) rfl ?_
  exact lp_cp_46_39 k 8 0 rfl m (fun j hj => absurd hj (Nat.not_lt_zero j)) (ag_r _ _)

set_option maxHeartbeats 4000000 in
set_option maxRecDepth 20000 in
theorem lp_cp_42_47 {Q : am_P} {z : am_Z} {m : Nat → Nat → Int32} {n : Nat} (k : ∀ m', (∀ j, j < 42 → m' 47 j = m 42 j) → ag [47] m m' → Q none (wd z m') n) : ∀ (d c : Nat), c + d = 42 → ∀ m', (∀ j, j < c → m' 47 j = m 42 j) → ag [47] m m' → AW mX10_copy Q 2 [some (.ref 42), some (.ref 47), some (.int (nI c))] [] (wd z m') n 0 0 := by
  intro d
  induction d with
  | zero =>
    intro c hc m' h0 hag
    obtain rfl : c = 42 := by omega
    refine r_iload_n 3 rfl 2 dX10_copy_2 rfl rfl ?_
    refine r_aload_n 4 rfl 0 dX10_copy_3 rfl rfl ?_
    refine r_alen 5 rfl dX10_copy_4 rfl ?_
    refine r_icmp_ge 8 20 rfl dX10_copy_5 rfl (fun _ => ?_) (fun q__ => absurd ((nI_leI (a := 42) (b := 42) (by omega) (by omega)).mpr (by omega)) q__)
    refine r_return rfl dX10_copy_20 (Nat.le_of_ble_eq_true rfl) (Nat.le_of_ble_eq_true rfl) ?_
    exact k m' h0 hag
  | succ d ih =>
    intro c hc m' h0 hag
    have eA : m' 42 c = m 42 c := by rw [hag 42 (by decide)]
    refine r_iload_n 3 rfl 2 dX10_copy_2 rfl rfl ?_
    refine r_aload_n 4 rfl 0 dX10_copy_3 rfl rfl ?_
    refine r_alen 5 rfl dX10_copy_4 rfl ?_
    refine r_icmp_ge 8 20 rfl dX10_copy_5 rfl (fun q__ => absurd q__ (fun q__ => absurd ((nI_leI (a := 42) (b := c) (by omega) (by omega)).mp q__) (by omega))) (fun _ => ?_)
    refine r_aload_n 9 rfl 1 dX10_copy_8 rfl rfl ?_
    refine r_iload_n 10 rfl 2 dX10_copy_9 rfl rfl ?_
    refine r_aload_n 11 rfl 0 dX10_copy_10 rfl rfl ?_
    refine r_iload_n 12 rfl 2 dX10_copy_11 rfl rfl ?_
    refine r_iald (f := m' 42) 13 rfl c dX10_copy_12 rfl rfl (by omega) (by decide) ?_
    rw [show (m' 42) c = m 42 c from eA]
    refine w_iast 14 rfl c (va_up m' 47 (upd (m' 47) c (m 42 c))) dX10_copy_13 (by decide) (by decide) (fun _ => rfl) rfl (by omega) (by decide) rfl ?_
    refine r_iinc 17 rfl (nI (c + 1)) [some (.ref 42), some (.ref 47), some (.int (nI (c + 1)))] dX10_copy_14 rfl (nI_1 _) (by decide) rfl ?_
    refine r_goto 2 dX10_copy_17 rfl ?_
    refine ih (c + 1) (by omega) _ (fun j hj => ?_) (ag_up hag (by decide))
    rw [va_up_self]; unfold upd
    by_cases h : j = c
    · rw [if_pos h, h]
    · rw [if_neg h]; exact h0 j (by omega)
set_option maxHeartbeats 4000000 in
set_option maxRecDepth 20000 in
theorem c_cp_42_47 {Q : am_P} {z : am_Z} {m : Nat → Nat → Int32} {n : Nat}  (k : ∀ m', (∀ j, j < 42 → m' 47 j = m 42 j) → ag [47] m m' → Q none (wd z m') n) : AW mX10_copy Q 0 (am_ent (am_l mX10_copy) [.ref 42, .ref 47]) [] (wd z m) n 0 0 := by
  show AW _ _ 0 [some (.ref 42), some (.ref 47), none] [] _ _ 0 0
  refine r_iconst 1 rfl 0 dX10_copy_0 rfl ?_
  refine r_istore_n 2 rfl 2 [some (.ref 42), some (.ref 47), some (.int 0)] dX10_copy_1 rfl (by decide) rfl ?_
  exact lp_cp_42_47 k 42 0 rfl m (fun j hj => absurd hj (Nat.not_lt_zero j)) (ag_r _ _)

set_option maxHeartbeats 4000000 in
set_option maxRecDepth 20000 in
theorem lp_cp_47_42 {Q : am_P} {z : am_Z} {m : Nat → Nat → Int32} {n : Nat} (k : ∀ m', (∀ j, j < 42 → m' 42 j = m 47 j) → ag [42] m m' → Q none (wd z m') n) : ∀ (d c : Nat), c + d = 42 → ∀ m', (∀ j, j < c → m' 42 j = m 47 j) → ag [42] m m' → AW mX10_copy Q 2 [some (.ref 47), some (.ref 42), some (.int (nI c))] [] (wd z m') n 0 0 := by
  intro d
  induction d with
  | zero =>
    intro c hc m' h0 hag
    obtain rfl : c = 42 := by omega
    refine r_iload_n 3 rfl 2 dX10_copy_2 rfl rfl ?_
    refine r_aload_n 4 rfl 0 dX10_copy_3 rfl rfl ?_
    refine r_alen 5 rfl dX10_copy_4 rfl ?_
    refine r_icmp_ge 8 20 rfl dX10_copy_5 rfl (fun _ => ?_) (fun q__ => absurd ((nI_leI (a := 42) (b := 42) (by omega) (by omega)).mpr (by omega)) q__)
    refine r_return rfl dX10_copy_20 (Nat.le_of_ble_eq_true rfl) (Nat.le_of_ble_eq_true rfl) ?_
    exact k m' h0 hag
  | succ d ih =>
    intro c hc m' h0 hag
    have eA : m' 47 c = m 47 c := by rw [hag 47 (by decide)]
    refine r_iload_n 3 rfl 2 dX10_copy_2 rfl rfl ?_
    refine r_aload_n 4 rfl 0 dX10_copy_3 rfl rfl ?_
    refine r_alen 5 rfl dX10_copy_4 rfl ?_
    refine r_icmp_ge 8 20 rfl dX10_copy_5 rfl (fun q__ => absurd q__ (fun q__ => absurd ((nI_leI (a := 42) (b := c) (by omega) (by omega)).mp q__) (by omega))) (fun _ => ?_)
    refine r_aload_n 9 rfl 1 dX10_copy_8 rfl rfl ?_
    refine r_iload_n 10 rfl 2 dX10_copy_9 rfl rfl ?_
    refine r_aload_n 11 rfl 0 dX10_copy_10 rfl rfl ?_
    refine r_iload_n 12 rfl 2 dX10_copy_11 rfl rfl ?_
    refine r_iald (f := m' 47) 13 rfl c dX10_copy_12 rfl rfl (by omega) (by decide) ?_
    rw [show (m' 47) c = m 47 c from eA]
    refine w_iast 14 rfl c (va_up m' 42 (upd (m' 42) c (m 47 c))) dX10_copy_13 (by decide) (by decide) (fun _ => rfl) rfl (by omega) (by decide) rfl ?_
    refine r_iinc 17 rfl (nI (c + 1)) [some (.ref 47), some (.ref 42), some (.int (nI (c + 1)))] dX10_copy_14 rfl (nI_1 _) (by decide) rfl ?_
    refine r_goto 2 dX10_copy_17 rfl ?_
    refine ih (c + 1) (by omega) _ (fun j hj => ?_) (ag_up hag (by decide))
    rw [va_up_self]; unfold upd
    by_cases h : j = c
    · rw [if_pos h, h]
    · rw [if_neg h]; exact h0 j (by omega)
set_option maxHeartbeats 4000000 in
set_option maxRecDepth 20000 in
theorem c_cp_47_42 {Q : am_P} {z : am_Z} {m : Nat → Nat → Int32} {n : Nat}  (k : ∀ m', (∀ j, j < 42 → m' 42 j = m 47 j) → ag [42] m m' → Q none (wd z m') n) : AW mX10_copy Q 0 (am_ent (am_l mX10_copy) [.ref 47, .ref 42]) [] (wd z m) n 0 0 := by
  show AW _ _ 0 [some (.ref 47), some (.ref 42), none] [] _ _ 0 0
  refine r_iconst 1 rfl 0 dX10_copy_0 rfl ?_
  refine r_istore_n 2 rfl 2 [some (.ref 47), some (.ref 42), some (.int 0)] dX10_copy_1 rfl (by decide) rfl ?_
  exact lp_cp_47_42 k 42 0 rfl m (fun j hj => absurd hj (Nat.not_lt_zero j)) (ag_r _ _)

set_option maxHeartbeats 4000000 in
set_option maxRecDepth 20000 in
theorem lp_cp_42_50 {Q : am_P} {z : am_Z} {m : Nat → Nat → Int32} {n : Nat} (k : ∀ m', (∀ j, j < 42 → m' 50 j = m 42 j) → ag [50] m m' → Q none (wd z m') n) : ∀ (d c : Nat), c + d = 42 → ∀ m', (∀ j, j < c → m' 50 j = m 42 j) → ag [50] m m' → AW mX10_copy Q 2 [some (.ref 42), some (.ref 50), some (.int (nI c))] [] (wd z m') n 0 0 := by
  intro d
  induction d with
  | zero =>
    intro c hc m' h0 hag
    obtain rfl : c = 42 := by omega
    refine r_iload_n 3 rfl 2 dX10_copy_2 rfl rfl ?_
    refine r_aload_n 4 rfl 0 dX10_copy_3 rfl rfl ?_
    refine r_alen 5 rfl dX10_copy_4 rfl ?_
    refine r_icmp_ge 8 20 rfl dX10_copy_5 rfl (fun _ => ?_) (fun q__ => absurd ((nI_leI (a := 42) (b := 42) (by omega) (by omega)).mpr (by omega)) q__)
    refine r_return rfl dX10_copy_20 (Nat.le_of_ble_eq_true rfl) (Nat.le_of_ble_eq_true rfl) ?_
    exact k m' h0 hag
  | succ d ih =>
    intro c hc m' h0 hag
    have eA : m' 42 c = m 42 c := by rw [hag 42 (by decide)]
    refine r_iload_n 3 rfl 2 dX10_copy_2 rfl rfl ?_
    refine r_aload_n 4 rfl 0 dX10_copy_3 rfl rfl ?_
    refine r_alen 5 rfl dX10_copy_4 rfl ?_
    refine r_icmp_ge 8 20 rfl dX10_copy_5 rfl (fun q__ => absurd q__ (fun q__ => absurd ((nI_leI (a := 42) (b := c) (by omega) (by omega)).mp q__) (by omega))) (fun _ => ?_)
    refine r_aload_n 9 rfl 1 dX10_copy_8 rfl rfl ?_
    refine r_iload_n 10 rfl 2 dX10_copy_9 rfl rfl ?_
    refine r_aload_n 11 rfl 0 dX10_copy_10 rfl rfl ?_
    refine r_iload_n 12 rfl 2 dX10_copy_11 rfl rfl ?_
    refine r_iald (f := m' 42) 13 rfl c dX10_copy_12 rfl rfl (by omega) (by decide) ?_
    rw [show (m' 42) c = m 42 c from eA]
    refine w_iast 14 rfl c (va_up m' 50 (upd (m' 50) c (m 42 c))) dX10_copy_13 (by decide) (by decide) (fun _ => rfl) rfl (by omega) (by decide) rfl ?_
    refine r_iinc 17 rfl (nI (c + 1)) [some (.ref 42), some (.ref 50), some (.int (nI (c + 1)))] dX10_copy_14 rfl (nI_1 _) (by decide) rfl ?_
    refine r_goto 2 dX10_copy_17 rfl ?_
    refine ih (c + 1) (by omega) _ (fun j hj => ?_) (ag_up hag (by decide))
    rw [va_up_self]; unfold upd
    by_cases h : j = c
    · rw [if_pos h, h]
    · rw [if_neg h]; exact h0 j (by omega)
set_option maxHeartbeats 4000000 in
set_option maxRecDepth 20000 in
theorem c_cp_42_50 {Q : am_P} {z : am_Z} {m : Nat → Nat → Int32} {n : Nat}  (k : ∀ m', (∀ j, j < 42 → m' 50 j = m 42 j) → ag [50] m m' → Q none (wd z m') n) : AW mX10_copy Q 0 (am_ent (am_l mX10_copy) [.ref 42, .ref 50]) [] (wd z m) n 0 0 := by
  show AW _ _ 0 [some (.ref 42), some (.ref 50), none] [] _ _ 0 0
  refine r_iconst 1 rfl 0 dX10_copy_0 rfl ?_
  refine r_istore_n 2 rfl 2 [some (.ref 42), some (.ref 50), some (.int 0)] dX10_copy_1 rfl (by decide) rfl ?_
  exact lp_cp_42_50 k 42 0 rfl m (fun j hj => absurd hj (Nat.not_lt_zero j)) (ag_r _ _)

set_option maxHeartbeats 4000000 in
set_option maxRecDepth 20000 in
theorem lp_cp_40_51 {Q : am_P} {z : am_Z} {m : Nat → Nat → Int32} {n : Nat} (k : ∀ m', (∀ j, j < 8 → m' 51 j = m 40 j) → ag [51] m m' → Q none (wd z m') n) : ∀ (d c : Nat), c + d = 8 → ∀ m', (∀ j, j < c → m' 51 j = m 40 j) → ag [51] m m' → AW mX10_copy Q 2 [some (.ref 40), some (.ref 51), some (.int (nI c))] [] (wd z m') n 0 0 := by
  intro d
  induction d with
  | zero =>
    intro c hc m' h0 hag
    obtain rfl : c = 8 := by omega
    refine r_iload_n 3 rfl 2 dX10_copy_2 rfl rfl ?_
    refine r_aload_n 4 rfl 0 dX10_copy_3 rfl rfl ?_
    refine r_alen 5 rfl dX10_copy_4 rfl ?_
    refine r_icmp_ge 8 20 rfl dX10_copy_5 rfl (fun _ => ?_) (fun q__ => absurd ((nI_leI (a := 8) (b := 8) (by omega) (by omega)).mpr (by omega)) q__)
    refine r_return rfl dX10_copy_20 (Nat.le_of_ble_eq_true rfl) (Nat.le_of_ble_eq_true rfl) ?_
    exact k m' h0 hag
  | succ d ih =>
    intro c hc m' h0 hag
    have eA : m' 40 c = m 40 c := by rw [hag 40 (by decide)]
    refine r_iload_n 3 rfl 2 dX10_copy_2 rfl rfl ?_
    refine r_aload_n 4 rfl 0 dX10_copy_3 rfl rfl ?_
    refine r_alen 5 rfl dX10_copy_4 rfl ?_
    refine r_icmp_ge 8 20 rfl dX10_copy_5 rfl (fun q__ => absurd q__ (fun q__ => absurd ((nI_leI (a := 8) (b := c) (by omega) (by omega)).mp q__) (by omega))) (fun _ => ?_)
    refine r_aload_n 9 rfl 1 dX10_copy_8 rfl rfl ?_
    refine r_iload_n 10 rfl 2 dX10_copy_9 rfl rfl ?_
    refine r_aload_n 11 rfl 0 dX10_copy_10 rfl rfl ?_
    refine r_iload_n 12 rfl 2 dX10_copy_11 rfl rfl ?_
    refine r_iald (f := m' 40) 13 rfl c dX10_copy_12 rfl rfl (by omega) (by decide) ?_
    rw [show (m' 40) c = m 40 c from eA]
    refine w_iast 14 rfl c (va_up m' 51 (upd (m' 51) c (m 40 c))) dX10_copy_13 (by decide) (by decide) (fun _ => rfl) rfl (by omega) (by decide) rfl ?_
    refine r_iinc 17 rfl (nI (c + 1)) [some (.ref 40), some (.ref 51), some (.int (nI (c + 1)))] dX10_copy_14 rfl (nI_1 _) (by decide) rfl ?_
    refine r_goto 2 dX10_copy_17 rfl ?_
    refine ih (c + 1) (by omega) _ (fun j hj => ?_) (ag_up hag (by decide))
    rw [va_up_self]; unfold upd
    by_cases h : j = c
    · rw [if_pos h, h]
    · rw [if_neg h]; exact h0 j (by omega)
set_option maxHeartbeats 4000000 in
set_option maxRecDepth 20000 in
theorem c_cp_40_51 {Q : am_P} {z : am_Z} {m : Nat → Nat → Int32} {n : Nat}  (k : ∀ m', (∀ j, j < 8 → m' 51 j = m 40 j) → ag [51] m m' → Q none (wd z m') n) : AW mX10_copy Q 0 (am_ent (am_l mX10_copy) [.ref 40, .ref 51]) [] (wd z m) n 0 0 := by
  show AW _ _ 0 [some (.ref 40), some (.ref 51), none] [] _ _ 0 0
  refine r_iconst 1 rfl 0 dX10_copy_0 rfl ?_
  refine r_istore_n 2 rfl 2 [some (.ref 40), some (.ref 51), some (.int 0)] dX10_copy_1 rfl (by decide) rfl ?_
  exact lp_cp_40_51 k 8 0 rfl m (fun j hj => absurd hj (Nat.not_lt_zero j)) (ag_r _ _)

set_option maxHeartbeats 4000000 in
set_option maxRecDepth 20000 in
theorem lp_cp_41_52 {Q : am_P} {z : am_Z} {m : Nat → Nat → Int32} {n : Nat} (k : ∀ m', (∀ j, j < 3 → m' 52 j = m 41 j) → ag [52] m m' → Q none (wd z m') n) : ∀ (d c : Nat), c + d = 3 → ∀ m', (∀ j, j < c → m' 52 j = m 41 j) → ag [52] m m' → AW mX10_copy Q 2 [some (.ref 41), some (.ref 52), some (.int (nI c))] [] (wd z m') n 0 0 := by
  intro d
  induction d with
  | zero =>
    intro c hc m' h0 hag
    obtain rfl : c = 3 := by omega
    refine r_iload_n 3 rfl 2 dX10_copy_2 rfl rfl ?_
    refine r_aload_n 4 rfl 0 dX10_copy_3 rfl rfl ?_
    refine r_alen 5 rfl dX10_copy_4 rfl ?_
    refine r_icmp_ge 8 20 rfl dX10_copy_5 rfl (fun _ => ?_) (fun q__ => absurd ((nI_leI (a := 3) (b := 3) (by omega) (by omega)).mpr (by omega)) q__)
    refine r_return rfl dX10_copy_20 (Nat.le_of_ble_eq_true rfl) (Nat.le_of_ble_eq_true rfl) ?_
    exact k m' h0 hag
  | succ d ih =>
    intro c hc m' h0 hag
    have eA : m' 41 c = m 41 c := by rw [hag 41 (by decide)]
    refine r_iload_n 3 rfl 2 dX10_copy_2 rfl rfl ?_
    refine r_aload_n 4 rfl 0 dX10_copy_3 rfl rfl ?_
    refine r_alen 5 rfl dX10_copy_4 rfl ?_
    refine r_icmp_ge 8 20 rfl dX10_copy_5 rfl (fun q__ => absurd q__ (fun q__ => absurd ((nI_leI (a := 3) (b := c) (by omega) (by omega)).mp q__) (by omega))) (fun _ => ?_)
    refine r_aload_n 9 rfl 1 dX10_copy_8 rfl rfl ?_
    refine r_iload_n 10 rfl 2 dX10_copy_9 rfl rfl ?_
    refine r_aload_n 11 rfl 0 dX10_copy_10 rfl rfl ?_
    refine r_iload_n 12 rfl 2 dX10_copy_11 rfl rfl ?_
    refine r_iald (f := m' 41) 13 rfl c dX10_copy_12 rfl rfl (by omega) (by decide) ?_
    rw [show (m' 41) c = m 41 c from eA]
    refine w_iast 14 rfl c (va_up m' 52 (upd (m' 52) c (m 41 c))) dX10_copy_13 (by decide) (by decide) (fun _ => rfl) rfl (by omega) (by decide) rfl ?_
    refine r_iinc 17 rfl (nI (c + 1)) [some (.ref 41), some (.ref 52), some (.int (nI (c + 1)))] dX10_copy_14 rfl (nI_1 _) (by decide) rfl ?_
    refine r_goto 2 dX10_copy_17 rfl ?_
    refine ih (c + 1) (by omega) _ (fun j hj => ?_) (ag_up hag (by decide))
    rw [va_up_self]; unfold upd
    by_cases h : j = c
    · rw [if_pos h, h]
    · rw [if_neg h]; exact h0 j (by omega)
set_option maxHeartbeats 4000000 in
set_option maxRecDepth 20000 in
theorem c_cp_41_52 {Q : am_P} {z : am_Z} {m : Nat → Nat → Int32} {n : Nat}  (k : ∀ m', (∀ j, j < 3 → m' 52 j = m 41 j) → ag [52] m m' → Q none (wd z m') n) : AW mX10_copy Q 0 (am_ent (am_l mX10_copy) [.ref 41, .ref 52]) [] (wd z m) n 0 0 := by
  show AW _ _ 0 [some (.ref 41), some (.ref 52), none] [] _ _ 0 0
  refine r_iconst 1 rfl 0 dX10_copy_0 rfl ?_
  refine r_istore_n 2 rfl 2 [some (.ref 41), some (.ref 52), some (.int 0)] dX10_copy_1 rfl (by decide) rfl ?_
  exact lp_cp_41_52 k 3 0 rfl m (fun j hj => absurd hj (Nat.not_lt_zero j)) (ag_r _ _)

set_option maxHeartbeats 4000000 in
set_option maxRecDepth 20000 in
theorem lp_cp_48_53 {Q : am_P} {z : am_Z} {m : Nat → Nat → Int32} {n : Nat} (k : ∀ m', (∀ j, j < 16 → m' 53 j = m 48 j) → ag [53] m m' → Q none (wd z m') n) : ∀ (d c : Nat), c + d = 16 → ∀ m', (∀ j, j < c → m' 53 j = m 48 j) → ag [53] m m' → AW mX10_copy Q 2 [some (.ref 48), some (.ref 53), some (.int (nI c))] [] (wd z m') n 0 0 := by
  intro d
  induction d with
  | zero =>
    intro c hc m' h0 hag
    obtain rfl : c = 16 := by omega
    refine r_iload_n 3 rfl 2 dX10_copy_2 rfl rfl ?_
    refine r_aload_n 4 rfl 0 dX10_copy_3 rfl rfl ?_
    refine r_alen 5 rfl dX10_copy_4 rfl ?_
    refine r_icmp_ge 8 20 rfl dX10_copy_5 rfl (fun _ => ?_) (fun q__ => absurd ((nI_leI (a := 16) (b := 16) (by omega) (by omega)).mpr (by omega)) q__)
    refine r_return rfl dX10_copy_20 (Nat.le_of_ble_eq_true rfl) (Nat.le_of_ble_eq_true rfl) ?_
    exact k m' h0 hag
  | succ d ih =>
    intro c hc m' h0 hag
    have eA : m' 48 c = m 48 c := by rw [hag 48 (by decide)]
    refine r_iload_n 3 rfl 2 dX10_copy_2 rfl rfl ?_
    refine r_aload_n 4 rfl 0 dX10_copy_3 rfl rfl ?_
    refine r_alen 5 rfl dX10_copy_4 rfl ?_
    refine r_icmp_ge 8 20 rfl dX10_copy_5 rfl (fun q__ => absurd q__ (fun q__ => absurd ((nI_leI (a := 16) (b := c) (by omega) (by omega)).mp q__) (by omega))) (fun _ => ?_)
    refine r_aload_n 9 rfl 1 dX10_copy_8 rfl rfl ?_
    refine r_iload_n 10 rfl 2 dX10_copy_9 rfl rfl ?_
    refine r_aload_n 11 rfl 0 dX10_copy_10 rfl rfl ?_
    refine r_iload_n 12 rfl 2 dX10_copy_11 rfl rfl ?_
    refine r_iald (f := m' 48) 13 rfl c dX10_copy_12 rfl rfl (by omega) (by decide) ?_
    rw [show (m' 48) c = m 48 c from eA]
    refine w_iast 14 rfl c (va_up m' 53 (upd (m' 53) c (m 48 c))) dX10_copy_13 (by decide) (by decide) (fun _ => rfl) rfl (by omega) (by decide) rfl ?_
    refine r_iinc 17 rfl (nI (c + 1)) [some (.ref 48), some (.ref 53), some (.int (nI (c + 1)))] dX10_copy_14 rfl (nI_1 _) (by decide) rfl ?_
    refine r_goto 2 dX10_copy_17 rfl ?_
    refine ih (c + 1) (by omega) _ (fun j hj => ?_) (ag_up hag (by decide))
    rw [va_up_self]; unfold upd
    by_cases h : j = c
    · rw [if_pos h, h]
    · rw [if_neg h]; exact h0 j (by omega)
set_option maxHeartbeats 4000000 in
set_option maxRecDepth 20000 in
theorem c_cp_48_53 {Q : am_P} {z : am_Z} {m : Nat → Nat → Int32} {n : Nat}  (k : ∀ m', (∀ j, j < 16 → m' 53 j = m 48 j) → ag [53] m m' → Q none (wd z m') n) : AW mX10_copy Q 0 (am_ent (am_l mX10_copy) [.ref 48, .ref 53]) [] (wd z m) n 0 0 := by
  show AW _ _ 0 [some (.ref 48), some (.ref 53), none] [] _ _ 0 0
  refine r_iconst 1 rfl 0 dX10_copy_0 rfl ?_
  refine r_istore_n 2 rfl 2 [some (.ref 48), some (.ref 53), some (.int 0)] dX10_copy_1 rfl (by decide) rfl ?_
  exact lp_cp_48_53 k 16 0 rfl m (fun j hj => absurd hj (Nat.not_lt_zero j)) (ag_r _ _)

set_option maxHeartbeats 4000000 in
set_option maxRecDepth 20000 in
theorem lp_cp_50_42 {Q : am_P} {z : am_Z} {m : Nat → Nat → Int32} {n : Nat} (k : ∀ m', (∀ j, j < 42 → m' 42 j = m 50 j) → ag [42] m m' → Q none (wd z m') n) : ∀ (d c : Nat), c + d = 42 → ∀ m', (∀ j, j < c → m' 42 j = m 50 j) → ag [42] m m' → AW mX10_copy Q 2 [some (.ref 50), some (.ref 42), some (.int (nI c))] [] (wd z m') n 0 0 := by
  intro d
  induction d with
  | zero =>
    intro c hc m' h0 hag
    obtain rfl : c = 42 := by omega
    refine r_iload_n 3 rfl 2 dX10_copy_2 rfl rfl ?_
    refine r_aload_n 4 rfl 0 dX10_copy_3 rfl rfl ?_
    refine r_alen 5 rfl dX10_copy_4 rfl ?_
    refine r_icmp_ge 8 20 rfl dX10_copy_5 rfl (fun _ => ?_) (fun q__ => absurd ((nI_leI (a := 42) (b := 42) (by omega) (by omega)).mpr (by omega)) q__)
    refine r_return rfl dX10_copy_20 (Nat.le_of_ble_eq_true rfl) (Nat.le_of_ble_eq_true rfl) ?_
    exact k m' h0 hag
  | succ d ih =>
    intro c hc m' h0 hag
    have eA : m' 50 c = m 50 c := by rw [hag 50 (by decide)]
    refine r_iload_n 3 rfl 2 dX10_copy_2 rfl rfl ?_
    refine r_aload_n 4 rfl 0 dX10_copy_3 rfl rfl ?_
    refine r_alen 5 rfl dX10_copy_4 rfl ?_
    refine r_icmp_ge 8 20 rfl dX10_copy_5 rfl (fun q__ => absurd q__ (fun q__ => absurd ((nI_leI (a := 42) (b := c) (by omega) (by omega)).mp q__) (by omega))) (fun _ => ?_)
    refine r_aload_n 9 rfl 1 dX10_copy_8 rfl rfl ?_
    refine r_iload_n 10 rfl 2 dX10_copy_9 rfl rfl ?_
    refine r_aload_n 11 rfl 0 dX10_copy_10 rfl rfl ?_
    refine r_iload_n 12 rfl 2 dX10_copy_11 rfl rfl ?_
    refine r_iald (f := m' 50) 13 rfl c dX10_copy_12 rfl rfl (by omega) (by decide) ?_
    rw [show (m' 50) c = m 50 c from eA]
    refine w_iast 14 rfl c (va_up m' 42 (upd (m' 42) c (m 50 c))) dX10_copy_13 (by decide) (by decide) (fun _ => rfl) rfl (by omega) (by decide) rfl ?_
    refine r_iinc 17 rfl (nI (c + 1)) [some (.ref 50), some (.ref 42), some (.int (nI (c + 1)))] dX10_copy_14 rfl (nI_1 _) (by decide) rfl ?_
    refine r_goto 2 dX10_copy_17 rfl ?_
    refine ih (c + 1) (by omega) _ (fun j hj => ?_) (ag_up hag (by decide))
    rw [va_up_self]; unfold upd
    by_cases h : j = c
    · rw [if_pos h, h]
    · rw [if_neg h]; exact h0 j (by omega)
set_option maxHeartbeats 4000000 in
set_option maxRecDepth 20000 in
theorem c_cp_50_42 {Q : am_P} {z : am_Z} {m : Nat → Nat → Int32} {n : Nat}  (k : ∀ m', (∀ j, j < 42 → m' 42 j = m 50 j) → ag [42] m m' → Q none (wd z m') n) : AW mX10_copy Q 0 (am_ent (am_l mX10_copy) [.ref 50, .ref 42]) [] (wd z m) n 0 0 := by
  show AW _ _ 0 [some (.ref 50), some (.ref 42), none] [] _ _ 0 0
  refine r_iconst 1 rfl 0 dX10_copy_0 rfl ?_
  refine r_istore_n 2 rfl 2 [some (.ref 50), some (.ref 42), some (.int 0)] dX10_copy_1 rfl (by decide) rfl ?_
  exact lp_cp_50_42 k 42 0 rfl m (fun j hj => absurd hj (Nat.not_lt_zero j)) (ag_r _ _)

set_option maxHeartbeats 4000000 in
set_option maxRecDepth 20000 in
theorem lp_cp_51_40 {Q : am_P} {z : am_Z} {m : Nat → Nat → Int32} {n : Nat} (k : ∀ m', (∀ j, j < 8 → m' 40 j = m 51 j) → ag [40] m m' → Q none (wd z m') n) : ∀ (d c : Nat), c + d = 8 → ∀ m', (∀ j, j < c → m' 40 j = m 51 j) → ag [40] m m' → AW mX10_copy Q 2 [some (.ref 51), some (.ref 40), some (.int (nI c))] [] (wd z m') n 0 0 := by
  intro d
  induction d with
  | zero =>
    intro c hc m' h0 hag
    obtain rfl : c = 8 := by omega
    refine r_iload_n 3 rfl 2 dX10_copy_2 rfl rfl ?_
    refine r_aload_n 4 rfl 0 dX10_copy_3 rfl rfl ?_
    refine r_alen 5 rfl dX10_copy_4 rfl ?_
    refine r_icmp_ge 8 20 rfl dX10_copy_5 rfl (fun _ => ?_) (fun q__ => absurd ((nI_leI (a := 8) (b := 8) (by omega) (by omega)).mpr (by omega)) q__)
    refine r_return rfl dX10_copy_20 (Nat.le_of_ble_eq_true rfl) (Nat.le_of_ble_eq_true rfl) ?_
    exact k m' h0 hag
  | succ d ih =>
    intro c hc m' h0 hag
    have eA : m' 51 c = m 51 c := by rw [hag 51 (by decide)]
    refine r_iload_n 3 rfl 2 dX10_copy_2 rfl rfl ?_
    refine r_aload_n 4 rfl 0 dX10_copy_3 rfl rfl ?_
    refine r_alen 5 rfl dX10_copy_4 rfl ?_
    refine r_icmp_ge 8 20 rfl dX10_copy_5 rfl (fun q__ => absurd q__ (fun q__ => absurd ((nI_leI (a := 8) (b := c) (by omega) (by omega)).mp q__) (by omega))) (fun _ => ?_)
    refine r_aload_n 9 rfl 1 dX10_copy_8 rfl rfl ?_
    refine r_iload_n 10 rfl 2 dX10_copy_9 rfl rfl ?_
    refine r_aload_n 11 rfl 0 dX10_copy_10 rfl rfl ?_
    refine r_iload_n 12 rfl 2 dX10_copy_11 rfl rfl ?_
    refine r_iald (f := m' 51) 13 rfl c dX10_copy_12 rfl rfl (by omega) (by decide) ?_
    rw [show (m' 51) c = m 51 c from eA]
    refine w_iast 14 rfl c (va_up m' 40 (upd (m' 40) c (m 51 c))) dX10_copy_13 (by decide) (by decide) (fun _ => rfl) rfl (by omega) (by decide) rfl ?_
    refine r_iinc 17 rfl (nI (c + 1)) [some (.ref 51), some (.ref 40), some (.int (nI (c + 1)))] dX10_copy_14 rfl (nI_1 _) (by decide) rfl ?_
    refine r_goto 2 dX10_copy_17 rfl ?_
    refine ih (c + 1) (by omega) _ (fun j hj => ?_) (ag_up hag (by decide))
    rw [va_up_self]; unfold upd
    by_cases h : j = c
    · rw [if_pos h, h]
    · rw [if_neg h]; exact h0 j (by omega)
set_option maxHeartbeats 4000000 in
set_option maxRecDepth 20000 in
theorem c_cp_51_40 {Q : am_P} {z : am_Z} {m : Nat → Nat → Int32} {n : Nat}  (k : ∀ m', (∀ j, j < 8 → m' 40 j = m 51 j) → ag [40] m m' → Q none (wd z m') n) : AW mX10_copy Q 0 (am_ent (am_l mX10_copy) [.ref 51, .ref 40]) [] (wd z m) n 0 0 := by
  show AW _ _ 0 [some (.ref 51), some (.ref 40), none] [] _ _ 0 0
  refine r_iconst 1 rfl 0 dX10_copy_0 rfl ?_
  refine r_istore_n 2 rfl 2 [some (.ref 51), some (.ref 40), some (.int 0)] dX10_copy_1 rfl (by decide) rfl ?_
  exact lp_cp_51_40 k 8 0 rfl m (fun j hj => absurd hj (Nat.not_lt_zero j)) (ag_r _ _)

set_option maxHeartbeats 4000000 in
set_option maxRecDepth 20000 in
theorem lp_cp_52_41 {Q : am_P} {z : am_Z} {m : Nat → Nat → Int32} {n : Nat} (k : ∀ m', (∀ j, j < 3 → m' 41 j = m 52 j) → ag [41] m m' → Q none (wd z m') n) : ∀ (d c : Nat), c + d = 3 → ∀ m', (∀ j, j < c → m' 41 j = m 52 j) → ag [41] m m' → AW mX10_copy Q 2 [some (.ref 52), some (.ref 41), some (.int (nI c))] [] (wd z m') n 0 0 := by
  intro d
  induction d with
  | zero =>
    intro c hc m' h0 hag
    obtain rfl : c = 3 := by omega
    refine r_iload_n 3 rfl 2 dX10_copy_2 rfl rfl ?_
    refine r_aload_n 4 rfl 0 dX10_copy_3 rfl rfl ?_
    refine r_alen 5 rfl dX10_copy_4 rfl ?_
    refine r_icmp_ge 8 20 rfl dX10_copy_5 rfl (fun _ => ?_) (fun q__ => absurd ((nI_leI (a := 3) (b := 3) (by omega) (by omega)).mpr (by omega)) q__)
    refine r_return rfl dX10_copy_20 (Nat.le_of_ble_eq_true rfl) (Nat.le_of_ble_eq_true rfl) ?_
    exact k m' h0 hag
  | succ d ih =>
    intro c hc m' h0 hag
    have eA : m' 52 c = m 52 c := by rw [hag 52 (by decide)]
    refine r_iload_n 3 rfl 2 dX10_copy_2 rfl rfl ?_
    refine r_aload_n 4 rfl 0 dX10_copy_3 rfl rfl ?_
    refine r_alen 5 rfl dX10_copy_4 rfl ?_
    refine r_icmp_ge 8 20 rfl dX10_copy_5 rfl (fun q__ => absurd q__ (fun q__ => absurd ((nI_leI (a := 3) (b := c) (by omega) (by omega)).mp q__) (by omega))) (fun _ => ?_)
    refine r_aload_n 9 rfl 1 dX10_copy_8 rfl rfl ?_
    refine r_iload_n 10 rfl 2 dX10_copy_9 rfl rfl ?_
    refine r_aload_n 11 rfl 0 dX10_copy_10 rfl rfl ?_
    refine r_iload_n 12 rfl 2 dX10_copy_11 rfl rfl ?_
    refine r_iald (f := m' 52) 13 rfl c dX10_copy_12 rfl rfl (by omega) (by decide) ?_
    rw [show (m' 52) c = m 52 c from eA]
    refine w_iast 14 rfl c (va_up m' 41 (upd (m' 41) c (m 52 c))) dX10_copy_13 (by decide) (by decide) (fun _ => rfl) rfl (by omega) (by decide) rfl ?_
    refine r_iinc 17 rfl (nI (c + 1)) [some (.ref 52), some (.ref 41), some (.int (nI (c + 1)))] dX10_copy_14 rfl (nI_1 _) (by decide) rfl ?_
    refine r_goto 2 dX10_copy_17 rfl ?_
    refine ih (c + 1) (by omega) _ (fun j hj => ?_) (ag_up hag (by decide))
    rw [va_up_self]; unfold upd
    by_cases h : j = c
    · rw [if_pos h, h]
    · rw [if_neg h]; exact h0 j (by omega)
set_option maxHeartbeats 4000000 in
set_option maxRecDepth 20000 in
theorem c_cp_52_41 {Q : am_P} {z : am_Z} {m : Nat → Nat → Int32} {n : Nat}  (k : ∀ m', (∀ j, j < 3 → m' 41 j = m 52 j) → ag [41] m m' → Q none (wd z m') n) : AW mX10_copy Q 0 (am_ent (am_l mX10_copy) [.ref 52, .ref 41]) [] (wd z m) n 0 0 := by
  show AW _ _ 0 [some (.ref 52), some (.ref 41), none] [] _ _ 0 0
  refine r_iconst 1 rfl 0 dX10_copy_0 rfl ?_
  refine r_istore_n 2 rfl 2 [some (.ref 52), some (.ref 41), some (.int 0)] dX10_copy_1 rfl (by decide) rfl ?_
  exact lp_cp_52_41 k 3 0 rfl m (fun j hj => absurd hj (Nat.not_lt_zero j)) (ag_r _ _)

set_option maxHeartbeats 4000000 in
set_option maxRecDepth 20000 in
theorem lp_cp_53_48 {Q : am_P} {z : am_Z} {m : Nat → Nat → Int32} {n : Nat} (k : ∀ m', (∀ j, j < 16 → m' 48 j = m 53 j) → ag [48] m m' → Q none (wd z m') n) : ∀ (d c : Nat), c + d = 16 → ∀ m', (∀ j, j < c → m' 48 j = m 53 j) → ag [48] m m' → AW mX10_copy Q 2 [some (.ref 53), some (.ref 48), some (.int (nI c))] [] (wd z m') n 0 0 := by
  intro d
  induction d with
  | zero =>
    intro c hc m' h0 hag
    obtain rfl : c = 16 := by omega
    refine r_iload_n 3 rfl 2 dX10_copy_2 rfl rfl ?_
    refine r_aload_n 4 rfl 0 dX10_copy_3 rfl rfl ?_
    refine r_alen 5 rfl dX10_copy_4 rfl ?_
    refine r_icmp_ge 8 20 rfl dX10_copy_5 rfl (fun _ => ?_) (fun q__ => absurd ((nI_leI (a := 16) (b := 16) (by omega) (by omega)).mpr (by omega)) q__)
    refine r_return rfl dX10_copy_20 (Nat.le_of_ble_eq_true rfl) (Nat.le_of_ble_eq_true rfl) ?_
    exact k m' h0 hag
  | succ d ih =>
    intro c hc m' h0 hag
    have eA : m' 53 c = m 53 c := by rw [hag 53 (by decide)]
    refine r_iload_n 3 rfl 2 dX10_copy_2 rfl rfl ?_
    refine r_aload_n 4 rfl 0 dX10_copy_3 rfl rfl ?_
    refine r_alen 5 rfl dX10_copy_4 rfl ?_
    refine r_icmp_ge 8 20 rfl dX10_copy_5 rfl (fun q__ => absurd q__ (fun q__ => absurd ((nI_leI (a := 16) (b := c) (by omega) (by omega)).mp q__) (by omega))) (fun _ => ?_)
    refine r_aload_n 9 rfl 1 dX10_copy_8 rfl rfl ?_
    refine r_iload_n 10 rfl 2 dX10_copy_9 rfl rfl ?_
    refine r_aload_n 11 rfl 0 dX10_copy_10 rfl rfl ?_
    refine r_iload_n 12 rfl 2 dX10_copy_11 rfl rfl ?_
    refine r_iald (f := m' 53) 13 rfl c dX10_copy_12 rfl rfl (by omega) (by decide) ?_
    rw [show (m' 53) c = m 53 c from eA]
    refine w_iast 14 rfl c (va_up m' 48 (upd (m' 48) c (m 53 c))) dX10_copy_13 (by decide) (by decide) (fun _ => rfl) rfl (by omega) (by decide) rfl ?_
    refine r_iinc 17 rfl (nI (c + 1)) [some (.ref 53), some (.ref 48), some (.int (nI (c + 1)))] dX10_copy_14 rfl (nI_1 _) (by decide) rfl ?_
    refine r_goto 2 dX10_copy_17 rfl ?_
    refine ih (c + 1) (by omega) _ (fun j hj => ?_) (ag_up hag (by decide))
    rw [va_up_self]; unfold upd
    by_cases h : j = c
    · rw [if_pos h, h]
    · rw [if_neg h]; exact h0 j (by omega)
set_option maxHeartbeats 4000000 in
set_option maxRecDepth 20000 in
theorem c_cp_53_48 {Q : am_P} {z : am_Z} {m : Nat → Nat → Int32} {n : Nat}  (k : ∀ m', (∀ j, j < 16 → m' 48 j = m 53 j) → ag [48] m m' → Q none (wd z m') n) : AW mX10_copy Q 0 (am_ent (am_l mX10_copy) [.ref 53, .ref 48]) [] (wd z m) n 0 0 := by
  show AW _ _ 0 [some (.ref 53), some (.ref 48), none] [] _ _ 0 0
  refine r_iconst 1 rfl 0 dX10_copy_0 rfl ?_
  refine r_istore_n 2 rfl 2 [some (.ref 53), some (.ref 48), some (.int 0)] dX10_copy_1 rfl (by decide) rfl ?_
  exact lp_cp_53_48 k 16 0 rfl m (fun j hj => absurd hj (Nat.not_lt_zero j)) (ag_r _ _)

set_option maxHeartbeats 4000000 in
set_option maxRecDepth 20000 in
theorem lp_c_cf_21_7 {Q : am_P} {z : am_Z} {m : Nat → Nat → Int32} {n : Nat} {fr : Nat} (hbl : BL m 7) (hfr : m 7 4 = nI fr) (hr1 : fr ≤ 1) (kx : ∀ m', m' 21 = upd (m 21) 0 (m 7 0) → (∀ j, j < 6 → m' 22 j = m 8 j) → (∀ j, j < 6 → m' 23 j = m 9 j) → ag [21, 22, 23] m m' → AW mX5_copyFrom Q 46 [some (.ref 21), some (.ref 7), none] [] (wd z m') n 0 0) : ∀ (d c : Nat), c + d = 6 → ∀ m', m' 21 = upd (m 21) 0 (m 7 0) → (∀ j, j < c → m' 22 j = m 8 j) → (∀ j, j < c → m' 23 j = m 9 j) → ag [21, 22, 23] m m' → AW mX5_copyFrom Q 10 [some (.ref 21), some (.ref 7), some (.int (nI c))] [] (wd z m') n 0 0 := by
  intro d
  induction d with
  | zero =>
    intro c hc m' h0 h1 h2 hag
    obtain rfl : c = 6 := by omega
    refine r_iload_n 11 rfl 2 dX5_copyFrom_10 rfl rfl ?_
    refine r_bipush 13 rfl 6 dX5_copyFrom_11 (by decide) ?_
    refine r_icmp_ge 16 46 rfl dX5_copyFrom_13 rfl (fun _ => ?_) (fun q__ => absurd ((nI_leI (a := 6) (b := 6) (by omega) (by omega)).mpr (by omega)) q__)
    refine AW.drop 2 [some (.ref 21), some (.ref 7), none] rfl ?_
    exact kx m' h0 h1 h2 hag
  | succ d ih =>
    intro c hc m' h0 h1 h2 hag
    have t1 : m' 8 = m 8 := hag 8 (by decide)
    have t2 : m' 9 = m 9 := hag 9 (by decide)
    obtain ⟨b, hb, hb1⟩ : ∃ b : Nat, m 8 c = nI b ∧ b ≤ 1 := (hbl c (by omega)).elim (fun h => ⟨0, h, by decide⟩) (fun h => ⟨1, h, by decide⟩)
    have b1 : m' 8 c = nI b := by rw [t1]; exact hb
    have b2 : m' 9 c = m 9 c := by rw [t2]
    refine r_iload_n 11 rfl 2 dX5_copyFrom_10 rfl rfl ?_
    refine r_bipush 13 rfl 6 dX5_copyFrom_11 (by decide) ?_
    refine r_icmp_ge 16 46 rfl dX5_copyFrom_13 rfl (fun q__ => absurd q__ (fun q__ => absurd ((nI_leI (a := 6) (b := c) (by omega) (by omega)).mp q__) (by omega))) (fun _ => ?_)
    refine r_aload_n 17 rfl 0 dX5_copyFrom_16 rfl rfl ?_
    refine r_getf (v := .ref 22) (k := 1) 20 rfl dX5_copyFrom_17 (gf_X5_9_5 rfl) rfl rfl ?_
    refine r_iload_n 21 rfl 2 dX5_copyFrom_20 rfl rfl ?_
    refine r_aload_n 22 rfl 1 dX5_copyFrom_21 rfl rfl ?_
    refine r_getf (v := .ref 8) (k := 1) 25 rfl dX5_copyFrom_22 (gf_X5_9_5 rfl) rfl rfl ?_
    refine r_iload_n 26 rfl 2 dX5_copyFrom_25 rfl rfl ?_
    refine r_zald (f := m' 8) 27 rfl c dX5_copyFrom_26 (by decide) rfl rfl (by omega) (by decide) ?_
    rw [show (m' 8) c = nI b from b1]
    refine w_zast 28 rfl c (va_up m' 22 (upd (m' 22) c (nI b))) dX5_copyFrom_27 (by decide) (by decide) (fun _ => rfl) rfl (by omega) (by decide) (nz_b hb1) rfl ?_
    refine r_aload_n 29 rfl 0 dX5_copyFrom_28 rfl rfl ?_
    refine r_getf (v := .ref 23) (k := 2) 32 rfl dX5_copyFrom_29 (gf_X5_15_5 rfl) rfl rfl ?_
    refine r_iload_n 33 rfl 2 dX5_copyFrom_32 rfl rfl ?_
    refine r_aload_n 34 rfl 1 dX5_copyFrom_33 rfl rfl ?_
    refine r_getf (v := .ref 9) (k := 2) 37 rfl dX5_copyFrom_34 (gf_X5_15_5 rfl) rfl rfl ?_
    refine r_iload_n 38 rfl 2 dX5_copyFrom_37 rfl rfl ?_
    refine r_iald (f := m' 9) 39 rfl c dX5_copyFrom_38 rfl rfl (by omega) (by decide) ?_
    rw [show (m' 9) c = m 9 c from b2]
    refine w_iast 40 rfl c (va_up (va_up m' 22 (upd (m' 22) c (nI b))) 23 (upd (m' 23) c (m 9 c))) dX5_copyFrom_39 (by decide) (by decide) (fun _ => rfl) rfl (by omega) (by decide) rfl ?_
    refine r_iinc 43 rfl (nI (c + 1)) [some (.ref 21), some (.ref 7), some (.int (nI (c + 1)))] dX5_copyFrom_40 rfl (nI_1 _) (by decide) rfl ?_
    refine r_goto 10 dX5_copyFrom_43 rfl ?_
    refine ih (c + 1) (by omega) _ ?_ (fun j hj => ?_) (fun j hj => ?_) (ag_up (ag_up hag (by decide)) (by decide))
    · exact h0
    · show upd (m' 22) c _ j = _; unfold upd
      by_cases hjc : j = c
      · rw [if_pos hjc, hjc, hb]
      · rw [if_neg hjc]; exact h1 j (by omega)
    · show upd (m' 23) c _ j = _; unfold upd
      by_cases hjc : j = c
      · rw [if_pos hjc, hjc]
      · rw [if_neg hjc]; exact h2 j (by omega)
set_option maxHeartbeats 4000000 in
set_option maxRecDepth 20000 in
theorem c_cf_21_7 {Q : am_P} {z : am_Z} {m : Nat → Nat → Int32} {n : Nat} {fr : Nat} (hbl : BL m 7) (hfr : m 7 4 = nI fr) (hr1 : fr ≤ 1) (k : ∀ m', (m' 21 0 = m 7 0 ∧ m' 21 3 = m 7 3 ∧ m' 21 4 = m 7 4 ∧ m' 21 5 = m 7 5 ∧ m' 21 8 = m 7 8) → (∀ j, j < 6 → m' 22 j = m 8 j) → (∀ j, j < 6 → m' 23 j = m 9 j) → (∀ j, j < 8 → m' 24 j = m 10 j) → (∀ j, j < 3 → m' 25 j = m 11 j) → (∀ j, j < 8 → m' 26 j = m 12 j) → (∀ j, j < 8 → m' 27 j = m 13 j) → ag [21, 22, 23, 24, 25, 26, 27] m m' → Q none (wd z m') n) : AW mX5_copyFrom Q 0 (am_ent (am_l mX5_copyFrom) [.ref 21, .ref 7]) [] (wd z m) n 0 0 := by
  show AW _ _ 0 [some (.ref 21), some (.ref 7), none] [] _ _ 0 0
  refine r_aload_n 1 rfl 0 dX5_copyFrom_0 rfl rfl ?_
  refine r_aload_n 2 rfl 1 dX5_copyFrom_1 rfl rfl ?_
  refine r_getf (v := .int ((m 7) 0)) (k := 0) 5 rfl dX5_copyFrom_2 (gf_X5_31_5 rfl) rfl rfl ?_
  refine w_putf 8 rfl (k := 0) (va_up m 21 (upd (m 21) 0 ((m 7) 0))) dX5_copyFrom_5 (pf_X5_31_5 rfl) (by decide) (by decide) rfl (Nat.le_of_ble_eq_true rfl) rfl ⟨rfl, rfl⟩ rfl ?_
  refine r_iconst 9 rfl 0 dX5_copyFrom_8 rfl ?_
  refine r_istore_n 10 rfl 2 [some (.ref 21), some (.ref 7), some (.int 0)] dX5_copyFrom_9 rfl (by decide) rfl ?_
  refine lp_c_cf_21_7 hbl hfr hr1 (fun m1 g0 g1 g2 hag => ?_) 6 0 rfl (va_up m 21 (upd (m 21) 0 (m 7 0))) rfl (fun j hj => absurd hj (Nat.not_lt_zero j)) (fun j hj => absurd hj (Nat.not_lt_zero j)) (ag_up (ag_r _ _) (by decide))
  have u0 : m1 7 = m 7 := hag 7 (by decide)
  have u3 : m1 10 = m 10 := hag 10 (by decide)
  have u4 : m1 11 = m 11 := hag 11 (by decide)
  have u5 : m1 12 = m 12 := hag 12 (by decide)
  have u6 : m1 13 = m 13 := hag 13 (by decide)
  have u4f : m1 7 4 = nI fr := by rw [u0]; exact hfr
  refine r_aload_n 47 rfl 0 dX5_copyFrom_46 rfl rfl ?_
  refine r_aload_n 48 rfl 1 dX5_copyFrom_47 rfl rfl ?_
  refine r_getf (v := .int ((m1 7) 3)) (k := 3) 51 rfl dX5_copyFrom_48 (gf_X5_35_5 rfl) rfl rfl ?_
  rw [show (m1 7) 3 = m 7 3 from (by rw [u0])]
  refine w_putf 54 rfl (k := 3) (va_up m1 21 (upd (m1 21) 3 (m 7 3))) dX5_copyFrom_51 (pf_X5_35_5 rfl) (by decide) (by decide) rfl (Nat.le_of_ble_eq_true rfl) rfl ⟨rfl, rfl⟩ rfl ?_
  refine r_aload_n 55 rfl 0 dX5_copyFrom_54 rfl rfl ?_
  refine r_aload_n 56 rfl 1 dX5_copyFrom_55 rfl rfl ?_
  refine r_getf (v := .int ((m1 7) 4)) (k := 4) 59 rfl dX5_copyFrom_56 (gf_X5_38_5 rfl) rfl rfl ?_
  rw [show (m1 7) 4 = nI fr from u4f]
  refine w_putf 62 rfl (k := 4) (va_up (va_up m1 21 (upd (m1 21) 3 (m 7 3))) 21 (upd (upd (m1 21) 3 (m 7 3)) 4 (nI fr))) dX5_copyFrom_59 (pf_X5_38_5 rfl) (by decide) (by decide) rfl (Nat.le_of_ble_eq_true rfl) rfl ⟨nz_b hr1, fz_b hr1⟩ rfl ?_
  refine r_aload_n 63 rfl 0 dX5_copyFrom_62 rfl rfl ?_
  refine r_aload_n 64 rfl 1 dX5_copyFrom_63 rfl rfl ?_
  refine r_getf (v := .int ((m1 7) 5)) (k := 5) 67 rfl dX5_copyFrom_64 (gf_X5_42_5 rfl) rfl rfl ?_
  rw [show (m1 7) 5 = m 7 5 from (by rw [u0])]
  refine w_putf 70 rfl (k := 5) (va_up (va_up (va_up m1 21 (upd (m1 21) 3 (m 7 3))) 21 (upd (upd (m1 21) 3 (m 7 3)) 4 (nI fr))) 21 (upd (upd (upd (m1 21) 3 (m 7 3)) 4 (nI fr)) 5 (m 7 5))) dX5_copyFrom_67 (pf_X5_42_5 rfl) (by decide) (by decide) rfl (Nat.le_of_ble_eq_true rfl) rfl ⟨rfl, rfl⟩ rfl ?_
  refine r_aload_n 71 rfl 1 dX5_copyFrom_70 rfl rfl ?_
  refine r_getf (v := .ref 10) (k := 6) 74 rfl dX5_copyFrom_71 (gf_X5_19_5 rfl) rfl rfl ?_
  refine r_iconst 75 rfl 0 dX5_copyFrom_74 rfl ?_
  refine r_aload_n 76 rfl 0 dX5_copyFrom_75 rfl rfl ?_
  refine r_getf (v := .ref 24) (k := 6) 79 rfl dX5_copyFrom_76 (gf_X5_19_5 rfl) rfl rfl ?_
  refine r_iconst 80 rfl 0 dX5_copyFrom_79 rfl ?_
  refine r_bipush 82 rfl 8 dX5_copyFrom_80 (by decide) ?_
  refine w_copy 85 rfl dX5_copyFrom_82 (lk_X5_45 rfl) (by decide) (by decide) (by decide) rfl (fun _ => rfl) rfl (by decide) (by decide) (Nat.le_of_ble_eq_true rfl) (va_up (va_up (va_up (va_up m1 21 (upd (m1 21) 3 (m 7 3))) 21 (upd (upd (m1 21) 3 (m 7 3)) 4 (nI fr))) 21 (upd (upd (upd (m1 21) 3 (m 7 3)) 4 (nI fr)) 5 (m 7 5))) 24 (va_cpy (m1 10) (m1 24) 0 0 8)) rfl ?_
  refine r_aload_n 86 rfl 1 dX5_copyFrom_85 rfl rfl ?_
  refine r_getf (v := .ref 11) (k := 7) 89 rfl dX5_copyFrom_86 (gf_X5_22_5 rfl) rfl rfl ?_
  refine r_iconst 90 rfl 0 dX5_copyFrom_89 rfl ?_
  refine r_aload_n 91 rfl 0 dX5_copyFrom_90 rfl rfl ?_
  refine r_getf (v := .ref 25) (k := 7) 94 rfl dX5_copyFrom_91 (gf_X5_22_5 rfl) rfl rfl ?_
  refine r_iconst 95 rfl 0 dX5_copyFrom_94 rfl ?_
  refine r_iconst 96 rfl 3 dX5_copyFrom_95 rfl ?_
  refine w_copy 99 rfl dX5_copyFrom_96 (lk_X5_45 rfl) (by decide) (by decide) (by decide) rfl (fun _ => rfl) rfl (by decide) (by decide) (Nat.le_of_ble_eq_true rfl) (va_up (va_up (va_up (va_up (va_up m1 21 (upd (m1 21) 3 (m 7 3))) 21 (upd (upd (m1 21) 3 (m 7 3)) 4 (nI fr))) 21 (upd (upd (upd (m1 21) 3 (m 7 3)) 4 (nI fr)) 5 (m 7 5))) 24 (va_cpy (m1 10) (m1 24) 0 0 8)) 25 (va_cpy (m1 11) (m1 25) 0 0 3)) rfl ?_
  refine r_aload_n 100 rfl 0 dX5_copyFrom_99 rfl rfl ?_
  refine r_aload_n 101 rfl 1 dX5_copyFrom_100 rfl rfl ?_
  refine r_getf (v := .int ((m1 7) 8)) (k := 8) 104 rfl dX5_copyFrom_101 (gf_X5_51_5 rfl) rfl rfl ?_
  rw [show (m1 7) 8 = m 7 8 from (by rw [u0])]
  refine w_putf 107 rfl (k := 8) (va_up (va_up (va_up (va_up (va_up (va_up m1 21 (upd (m1 21) 3 (m 7 3))) 21 (upd (upd (m1 21) 3 (m 7 3)) 4 (nI fr))) 21 (upd (upd (upd (m1 21) 3 (m 7 3)) 4 (nI fr)) 5 (m 7 5))) 24 (va_cpy (m1 10) (m1 24) 0 0 8)) 25 (va_cpy (m1 11) (m1 25) 0 0 3)) 21 (upd (upd (upd (upd (m1 21) 3 (m 7 3)) 4 (nI fr)) 5 (m 7 5)) 8 (m 7 8))) dX5_copyFrom_104 (pf_X5_51_5 rfl) (by decide) (by decide) rfl (Nat.le_of_ble_eq_true rfl) rfl ⟨rfl, rfl⟩ rfl ?_
  refine r_aload_n 108 rfl 1 dX5_copyFrom_107 rfl rfl ?_
  refine r_getf (v := .ref 12) (k := 9) 111 rfl dX5_copyFrom_108 (gf_X5_25_5 rfl) rfl rfl ?_
  refine r_iconst 112 rfl 0 dX5_copyFrom_111 rfl ?_
  refine r_aload_n 113 rfl 0 dX5_copyFrom_112 rfl rfl ?_
  refine r_getf (v := .ref 26) (k := 9) 116 rfl dX5_copyFrom_113 (gf_X5_25_5 rfl) rfl rfl ?_
  refine r_iconst 117 rfl 0 dX5_copyFrom_116 rfl ?_
  refine r_bipush 119 rfl 8 dX5_copyFrom_117 (by decide) ?_
  refine w_copy 122 rfl dX5_copyFrom_119 (lk_X5_45 rfl) (by decide) (by decide) (by decide) rfl (fun _ => rfl) rfl (by decide) (by decide) (Nat.le_of_ble_eq_true rfl) (va_up (va_up (va_up (va_up (va_up (va_up (va_up m1 21 (upd (m1 21) 3 (m 7 3))) 21 (upd (upd (m1 21) 3 (m 7 3)) 4 (nI fr))) 21 (upd (upd (upd (m1 21) 3 (m 7 3)) 4 (nI fr)) 5 (m 7 5))) 24 (va_cpy (m1 10) (m1 24) 0 0 8)) 25 (va_cpy (m1 11) (m1 25) 0 0 3)) 21 (upd (upd (upd (upd (m1 21) 3 (m 7 3)) 4 (nI fr)) 5 (m 7 5)) 8 (m 7 8))) 26 (va_cpy (m1 12) (m1 26) 0 0 8)) rfl ?_
  refine r_aload_n 123 rfl 1 dX5_copyFrom_122 rfl rfl ?_
  refine r_getf (v := .ref 13) (k := 10) 126 rfl dX5_copyFrom_123 (gf_X5_28_5 rfl) rfl rfl ?_
  refine r_iconst 127 rfl 0 dX5_copyFrom_126 rfl ?_
  refine r_aload_n 128 rfl 0 dX5_copyFrom_127 rfl rfl ?_
  refine r_getf (v := .ref 27) (k := 10) 131 rfl dX5_copyFrom_128 (gf_X5_28_5 rfl) rfl rfl ?_
  refine r_iconst 132 rfl 0 dX5_copyFrom_131 rfl ?_
  refine r_bipush 134 rfl 8 dX5_copyFrom_132 (by decide) ?_
  refine w_copy 137 rfl dX5_copyFrom_134 (lk_X5_45 rfl) (by decide) (by decide) (by decide) rfl (fun _ => rfl) rfl (by decide) (by decide) (Nat.le_of_ble_eq_true rfl) (va_up (va_up (va_up (va_up (va_up (va_up (va_up (va_up m1 21 (upd (m1 21) 3 (m 7 3))) 21 (upd (upd (m1 21) 3 (m 7 3)) 4 (nI fr))) 21 (upd (upd (upd (m1 21) 3 (m 7 3)) 4 (nI fr)) 5 (m 7 5))) 24 (va_cpy (m1 10) (m1 24) 0 0 8)) 25 (va_cpy (m1 11) (m1 25) 0 0 3)) 21 (upd (upd (upd (upd (m1 21) 3 (m 7 3)) 4 (nI fr)) 5 (m 7 5)) 8 (m 7 8))) 26 (va_cpy (m1 12) (m1 26) 0 0 8)) 27 (va_cpy (m1 13) (m1 27) 0 0 8)) rfl ?_
  refine r_return rfl dX5_copyFrom_137 (Nat.le_of_ble_eq_true rfl) (Nat.le_of_ble_eq_true rfl) ?_
  refine k _ ⟨?_, ?_, ?_, ?_, ?_⟩ g1 g2 (fun j hj => ?_) (fun j hj => ?_) (fun j hj => ?_) (fun j hj => ?_) (fun x hx => ?_)
  · show m1 21 0 = _; rw [g0]; rfl
  · rfl
  · exact hfr.symm
  · rfl
  · rfl
  · show va_cpy (m1 10) (m1 24) 0 0 8 j = _; unfold va_cpy; rw [if_pos ⟨Nat.zero_le j, by omega⟩, Nat.sub_zero, Nat.zero_add]; rw [u3]
  · show va_cpy (m1 11) (m1 25) 0 0 3 j = _; unfold va_cpy; rw [if_pos ⟨Nat.zero_le j, by omega⟩, Nat.sub_zero, Nat.zero_add]; rw [u4]
  · show va_cpy (m1 12) (m1 26) 0 0 8 j = _; unfold va_cpy; rw [if_pos ⟨Nat.zero_le j, by omega⟩, Nat.sub_zero, Nat.zero_add]; rw [u5]
  · show va_cpy (m1 13) (m1 27) 0 0 8 j = _; unfold va_cpy; rw [if_pos ⟨Nat.zero_le j, by omega⟩, Nat.sub_zero, Nat.zero_add]; rw [u6]
  · have hx' := hx
    simp only [List.mem_cons, List.not_mem_nil, or_false, not_or] at hx'
    obtain ⟨x0, x1, x2, x3, x4, x5, x6⟩ := hx'
    have e0 : m1 x = m x := hag x (by simp [x0, x1, x2])
    simp only [va_up, if_neg x0, if_neg x3, if_neg x4, if_neg x5, if_neg x6]
    exact e0

set_option maxHeartbeats 4000000 in
set_option maxRecDepth 20000 in
theorem lp_c_cf_14_7 {Q : am_P} {z : am_Z} {m : Nat → Nat → Int32} {n : Nat} {fr : Nat} (hbl : BL m 7) (hfr : m 7 4 = nI fr) (hr1 : fr ≤ 1) (kx : ∀ m', m' 14 = upd (m 14) 0 (m 7 0) → (∀ j, j < 6 → m' 15 j = m 8 j) → (∀ j, j < 6 → m' 16 j = m 9 j) → ag [14, 15, 16] m m' → AW mX5_copyFrom Q 46 [some (.ref 14), some (.ref 7), none] [] (wd z m') n 0 0) : ∀ (d c : Nat), c + d = 6 → ∀ m', m' 14 = upd (m 14) 0 (m 7 0) → (∀ j, j < c → m' 15 j = m 8 j) → (∀ j, j < c → m' 16 j = m 9 j) → ag [14, 15, 16] m m' → AW mX5_copyFrom Q 10 [some (.ref 14), some (.ref 7), some (.int (nI c))] [] (wd z m') n 0 0 := by
  intro d
  induction d with
  | zero =>
    intro c hc m' h0 h1 h2 hag
    obtain rfl : c = 6 := by omega
    refine r_iload_n 11 rfl 2 dX5_copyFrom_10 rfl rfl ?_
    refine r_bipush 13 rfl 6 dX5_copyFrom_11 (by decide) ?_
    refine r_icmp_ge 16 46 rfl dX5_copyFrom_13 rfl (fun _ => ?_) (fun q__ => absurd ((nI_leI (a := 6) (b := 6) (by omega) (by omega)).mpr (by omega)) q__)
    refine AW.drop 2 [some (.ref 14), some (.ref 7), none] rfl ?_
    exact kx m' h0 h1 h2 hag
  | succ d ih =>
    intro c hc m' h0 h1 h2 hag
    have t1 : m' 8 = m 8 := hag 8 (by decide)
    have t2 : m' 9 = m 9 := hag 9 (by decide)
    obtain ⟨b, hb, hb1⟩ : ∃ b : Nat, m 8 c = nI b ∧ b ≤ 1 := (hbl c (by omega)).elim (fun h => ⟨0, h, by decide⟩) (fun h => ⟨1, h, by decide⟩)
    have b1 : m' 8 c = nI b := by rw [t1]; exact hb
    have b2 : m' 9 c = m 9 c := by rw [t2]
    refine r_iload_n 11 rfl 2 dX5_copyFrom_10 rfl rfl ?_
    refine r_bipush 13 rfl 6 dX5_copyFrom_11 (by decide) ?_
    refine r_icmp_ge 16 46 rfl dX5_copyFrom_13 rfl (fun q__ => absurd q__ (fun q__ => absurd ((nI_leI (a := 6) (b := c) (by omega) (by omega)).mp q__) (by omega))) (fun _ => ?_)
    refine r_aload_n 17 rfl 0 dX5_copyFrom_16 rfl rfl ?_
    refine r_getf (v := .ref 15) (k := 1) 20 rfl dX5_copyFrom_17 (gf_X5_9_5 rfl) rfl rfl ?_
    refine r_iload_n 21 rfl 2 dX5_copyFrom_20 rfl rfl ?_
    refine r_aload_n 22 rfl 1 dX5_copyFrom_21 rfl rfl ?_
    refine r_getf (v := .ref 8) (k := 1) 25 rfl dX5_copyFrom_22 (gf_X5_9_5 rfl) rfl rfl ?_
    refine r_iload_n 26 rfl 2 dX5_copyFrom_25 rfl rfl ?_
    refine r_zald (f := m' 8) 27 rfl c dX5_copyFrom_26 (by decide) rfl rfl (by omega) (by decide) ?_
    rw [show (m' 8) c = nI b from b1]
    refine w_zast 28 rfl c (va_up m' 15 (upd (m' 15) c (nI b))) dX5_copyFrom_27 (by decide) (by decide) (fun _ => rfl) rfl (by omega) (by decide) (nz_b hb1) rfl ?_
    refine r_aload_n 29 rfl 0 dX5_copyFrom_28 rfl rfl ?_
    refine r_getf (v := .ref 16) (k := 2) 32 rfl dX5_copyFrom_29 (gf_X5_15_5 rfl) rfl rfl ?_
    refine r_iload_n 33 rfl 2 dX5_copyFrom_32 rfl rfl ?_
    refine r_aload_n 34 rfl 1 dX5_copyFrom_33 rfl rfl ?_
    refine r_getf (v := .ref 9) (k := 2) 37 rfl dX5_copyFrom_34 (gf_X5_15_5 rfl) rfl rfl ?_
    refine r_iload_n 38 rfl 2 dX5_copyFrom_37 rfl rfl ?_
    refine r_iald (f := m' 9) 39 rfl c dX5_copyFrom_38 rfl rfl (by omega) (by decide) ?_
    rw [show (m' 9) c = m 9 c from b2]
    refine w_iast 40 rfl c (va_up (va_up m' 15 (upd (m' 15) c (nI b))) 16 (upd (m' 16) c (m 9 c))) dX5_copyFrom_39 (by decide) (by decide) (fun _ => rfl) rfl (by omega) (by decide) rfl ?_
    refine r_iinc 43 rfl (nI (c + 1)) [some (.ref 14), some (.ref 7), some (.int (nI (c + 1)))] dX5_copyFrom_40 rfl (nI_1 _) (by decide) rfl ?_
    refine r_goto 10 dX5_copyFrom_43 rfl ?_
    refine ih (c + 1) (by omega) _ ?_ (fun j hj => ?_) (fun j hj => ?_) (ag_up (ag_up hag (by decide)) (by decide))
    · exact h0
    · show upd (m' 15) c _ j = _; unfold upd
      by_cases hjc : j = c
      · rw [if_pos hjc, hjc, hb]
      · rw [if_neg hjc]; exact h1 j (by omega)
    · show upd (m' 16) c _ j = _; unfold upd
      by_cases hjc : j = c
      · rw [if_pos hjc, hjc]
      · rw [if_neg hjc]; exact h2 j (by omega)
set_option maxHeartbeats 4000000 in
set_option maxRecDepth 20000 in
theorem c_cf_14_7 {Q : am_P} {z : am_Z} {m : Nat → Nat → Int32} {n : Nat} {fr : Nat} (hbl : BL m 7) (hfr : m 7 4 = nI fr) (hr1 : fr ≤ 1) (k : ∀ m', (m' 14 0 = m 7 0 ∧ m' 14 3 = m 7 3 ∧ m' 14 4 = m 7 4 ∧ m' 14 5 = m 7 5 ∧ m' 14 8 = m 7 8) → (∀ j, j < 6 → m' 15 j = m 8 j) → (∀ j, j < 6 → m' 16 j = m 9 j) → (∀ j, j < 8 → m' 17 j = m 10 j) → (∀ j, j < 3 → m' 18 j = m 11 j) → (∀ j, j < 8 → m' 19 j = m 12 j) → (∀ j, j < 8 → m' 20 j = m 13 j) → ag [14, 15, 16, 17, 18, 19, 20] m m' → Q none (wd z m') n) : AW mX5_copyFrom Q 0 (am_ent (am_l mX5_copyFrom) [.ref 14, .ref 7]) [] (wd z m) n 0 0 := by
  show AW _ _ 0 [some (.ref 14), some (.ref 7), none] [] _ _ 0 0
  refine r_aload_n 1 rfl 0 dX5_copyFrom_0 rfl rfl ?_
  refine r_aload_n 2 rfl 1 dX5_copyFrom_1 rfl rfl ?_
  refine r_getf (v := .int ((m 7) 0)) (k := 0) 5 rfl dX5_copyFrom_2 (gf_X5_31_5 rfl) rfl rfl ?_
  refine w_putf 8 rfl (k := 0) (va_up m 14 (upd (m 14) 0 ((m 7) 0))) dX5_copyFrom_5 (pf_X5_31_5 rfl) (by decide) (by decide) rfl (Nat.le_of_ble_eq_true rfl) rfl ⟨rfl, rfl⟩ rfl ?_
  refine r_iconst 9 rfl 0 dX5_copyFrom_8 rfl ?_
  refine r_istore_n 10 rfl 2 [some (.ref 14), some (.ref 7), some (.int 0)] dX5_copyFrom_9 rfl (by decide) rfl ?_
  refine lp_c_cf_14_7 hbl hfr hr1 (fun m1 g0 g1 g2 hag => ?_) 6 0 rfl (va_up m 14 (upd (m 14) 0 (m 7 0))) rfl (fun j hj => absurd hj (Nat.not_lt_zero j)) (fun j hj => absurd hj (Nat.not_lt_zero j)) (ag_up (ag_r _ _) (by decide))
  have u0 : m1 7 = m 7 := hag 7 (by decide)
  have u3 : m1 10 = m 10 := hag 10 (by decide)
  have u4 : m1 11 = m 11 := hag 11 (by decide)
  have u5 : m1 12 = m 12 := hag 12 (by decide)
  have u6 : m1 13 = m 13 := hag 13 (by decide)
  have u4f : m1 7 4 = nI fr := by rw [u0]; exact hfr
  refine r_aload_n 47 rfl 0 dX5_copyFrom_46 rfl rfl ?_
  refine r_aload_n 48 rfl 1 dX5_copyFrom_47 rfl rfl ?_
  refine r_getf (v := .int ((m1 7) 3)) (k := 3) 51 rfl dX5_copyFrom_48 (gf_X5_35_5 rfl) rfl rfl ?_
  rw [show (m1 7) 3 = m 7 3 from (by rw [u0])]
  refine w_putf 54 rfl (k := 3) (va_up m1 14 (upd (m1 14) 3 (m 7 3))) dX5_copyFrom_51 (pf_X5_35_5 rfl) (by decide) (by decide) rfl (Nat.le_of_ble_eq_true rfl) rfl ⟨rfl, rfl⟩ rfl ?_
  refine r_aload_n 55 rfl 0 dX5_copyFrom_54 rfl rfl ?_
  refine r_aload_n 56 rfl 1 dX5_copyFrom_55 rfl rfl ?_
  refine r_getf (v := .int ((m1 7) 4)) (k := 4) 59 rfl dX5_copyFrom_56 (gf_X5_38_5 rfl) rfl rfl ?_
  rw [show (m1 7) 4 = nI fr from u4f]
  refine w_putf 62 rfl (k := 4) (va_up (va_up m1 14 (upd (m1 14) 3 (m 7 3))) 14 (upd (upd (m1 14) 3 (m 7 3)) 4 (nI fr))) dX5_copyFrom_59 (pf_X5_38_5 rfl) (by decide) (by decide) rfl (Nat.le_of_ble_eq_true rfl) rfl ⟨nz_b hr1, fz_b hr1⟩ rfl ?_
  refine r_aload_n 63 rfl 0 dX5_copyFrom_62 rfl rfl ?_
  refine r_aload_n 64 rfl 1 dX5_copyFrom_63 rfl rfl ?_
  refine r_getf (v := .int ((m1 7) 5)) (k := 5) 67 rfl dX5_copyFrom_64 (gf_X5_42_5 rfl) rfl rfl ?_
  rw [show (m1 7) 5 = m 7 5 from (by rw [u0])]
  refine w_putf 70 rfl (k := 5) (va_up (va_up (va_up m1 14 (upd (m1 14) 3 (m 7 3))) 14 (upd (upd (m1 14) 3 (m 7 3)) 4 (nI fr))) 14 (upd (upd (upd (m1 14) 3 (m 7 3)) 4 (nI fr)) 5 (m 7 5))) dX5_copyFrom_67 (pf_X5_42_5 rfl) (by decide) (by decide) rfl (Nat.le_of_ble_eq_true rfl) rfl ⟨rfl, rfl⟩ rfl ?_
  refine r_aload_n 71 rfl 1 dX5_copyFrom_70 rfl rfl ?_
  refine r_getf (v := .ref 10) (k := 6) 74 rfl dX5_copyFrom_71 (gf_X5_19_5 rfl) rfl rfl ?_
  refine r_iconst 75 rfl 0 dX5_copyFrom_74 rfl ?_
  refine r_aload_n 76 rfl 0 dX5_copyFrom_75 rfl rfl ?_
  refine r_getf (v := .ref 17) (k := 6) 79 rfl dX5_copyFrom_76 (gf_X5_19_5 rfl) rfl rfl ?_
  refine r_iconst 80 rfl 0 dX5_copyFrom_79 rfl ?_
  refine r_bipush 82 rfl 8 dX5_copyFrom_80 (by decide) ?_
  refine w_copy 85 rfl dX5_copyFrom_82 (lk_X5_45 rfl) (by decide) (by decide) (by decide) rfl (fun _ => rfl) rfl (by decide) (by decide) (Nat.le_of_ble_eq_true rfl) (va_up (va_up (va_up (va_up m1 14 (upd (m1 14) 3 (m 7 3))) 14 (upd (upd (m1 14) 3 (m 7 3)) 4 (nI fr))) 14 (upd (upd (upd (m1 14) 3 (m 7 3)) 4 (nI fr)) 5 (m 7 5))) 17 (va_cpy (m1 10) (m1 17) 0 0 8)) rfl ?_
  refine r_aload_n 86 rfl 1 dX5_copyFrom_85 rfl rfl ?_
  refine r_getf (v := .ref 11) (k := 7) 89 rfl dX5_copyFrom_86 (gf_X5_22_5 rfl) rfl rfl ?_
  refine r_iconst 90 rfl 0 dX5_copyFrom_89 rfl ?_
  refine r_aload_n 91 rfl 0 dX5_copyFrom_90 rfl rfl ?_
  refine r_getf (v := .ref 18) (k := 7) 94 rfl dX5_copyFrom_91 (gf_X5_22_5 rfl) rfl rfl ?_
  refine r_iconst 95 rfl 0 dX5_copyFrom_94 rfl ?_
  refine r_iconst 96 rfl 3 dX5_copyFrom_95 rfl ?_
  refine w_copy 99 rfl dX5_copyFrom_96 (lk_X5_45 rfl) (by decide) (by decide) (by decide) rfl (fun _ => rfl) rfl (by decide) (by decide) (Nat.le_of_ble_eq_true rfl) (va_up (va_up (va_up (va_up (va_up m1 14 (upd (m1 14) 3 (m 7 3))) 14 (upd (upd (m1 14) 3 (m 7 3)) 4 (nI fr))) 14 (upd (upd (upd (m1 14) 3 (m 7 3)) 4 (nI fr)) 5 (m 7 5))) 17 (va_cpy (m1 10) (m1 17) 0 0 8)) 18 (va_cpy (m1 11) (m1 18) 0 0 3)) rfl ?_
  refine r_aload_n 100 rfl 0 dX5_copyFrom_99 rfl rfl ?_
  refine r_aload_n 101 rfl 1 dX5_copyFrom_100 rfl rfl ?_
  refine r_getf (v := .int ((m1 7) 8)) (k := 8) 104 rfl dX5_copyFrom_101 (gf_X5_51_5 rfl) rfl rfl ?_
  rw [show (m1 7) 8 = m 7 8 from (by rw [u0])]
  refine w_putf 107 rfl (k := 8) (va_up (va_up (va_up (va_up (va_up (va_up m1 14 (upd (m1 14) 3 (m 7 3))) 14 (upd (upd (m1 14) 3 (m 7 3)) 4 (nI fr))) 14 (upd (upd (upd (m1 14) 3 (m 7 3)) 4 (nI fr)) 5 (m 7 5))) 17 (va_cpy (m1 10) (m1 17) 0 0 8)) 18 (va_cpy (m1 11) (m1 18) 0 0 3)) 14 (upd (upd (upd (upd (m1 14) 3 (m 7 3)) 4 (nI fr)) 5 (m 7 5)) 8 (m 7 8))) dX5_copyFrom_104 (pf_X5_51_5 rfl) (by decide) (by decide) rfl (Nat.le_of_ble_eq_true rfl) rfl ⟨rfl, rfl⟩ rfl ?_
  refine r_aload_n 108 rfl 1 dX5_copyFrom_107 rfl rfl ?_
  refine r_getf (v := .ref 12) (k := 9) 111 rfl dX5_copyFrom_108 (gf_X5_25_5 rfl) rfl rfl ?_
  refine r_iconst 112 rfl 0 dX5_copyFrom_111 rfl ?_
  refine r_aload_n 113 rfl 0 dX5_copyFrom_112 rfl rfl ?_
  refine r_getf (v := .ref 19) (k := 9) 116 rfl dX5_copyFrom_113 (gf_X5_25_5 rfl) rfl rfl ?_
  refine r_iconst 117 rfl 0 dX5_copyFrom_116 rfl ?_
  refine r_bipush 119 rfl 8 dX5_copyFrom_117 (by decide) ?_
  refine w_copy 122 rfl dX5_copyFrom_119 (lk_X5_45 rfl) (by decide) (by decide) (by decide) rfl (fun _ => rfl) rfl (by decide) (by decide) (Nat.le_of_ble_eq_true rfl) (va_up (va_up (va_up (va_up (va_up (va_up (va_up m1 14 (upd (m1 14) 3 (m 7 3))) 14 (upd (upd (m1 14) 3 (m 7 3)) 4 (nI fr))) 14 (upd (upd (upd (m1 14) 3 (m 7 3)) 4 (nI fr)) 5 (m 7 5))) 17 (va_cpy (m1 10) (m1 17) 0 0 8)) 18 (va_cpy (m1 11) (m1 18) 0 0 3)) 14 (upd (upd (upd (upd (m1 14) 3 (m 7 3)) 4 (nI fr)) 5 (m 7 5)) 8 (m 7 8))) 19 (va_cpy (m1 12) (m1 19) 0 0 8)) rfl ?_
  refine r_aload_n 123 rfl 1 dX5_copyFrom_122 rfl rfl ?_
  refine r_getf (v := .ref 13) (k := 10) 126 rfl dX5_copyFrom_123 (gf_X5_28_5 rfl) rfl rfl ?_
  refine r_iconst 127 rfl 0 dX5_copyFrom_126 rfl ?_
  refine r_aload_n 128 rfl 0 dX5_copyFrom_127 rfl rfl ?_
  refine r_getf (v := .ref 20) (k := 10) 131 rfl dX5_copyFrom_128 (gf_X5_28_5 rfl) rfl rfl ?_
  refine r_iconst 132 rfl 0 dX5_copyFrom_131 rfl ?_
  refine r_bipush 134 rfl 8 dX5_copyFrom_132 (by decide) ?_
  refine w_copy 137 rfl dX5_copyFrom_134 (lk_X5_45 rfl) (by decide) (by decide) (by decide) rfl (fun _ => rfl) rfl (by decide) (by decide) (Nat.le_of_ble_eq_true rfl) (va_up (va_up (va_up (va_up (va_up (va_up (va_up (va_up m1 14 (upd (m1 14) 3 (m 7 3))) 14 (upd (upd (m1 14) 3 (m 7 3)) 4 (nI fr))) 14 (upd (upd (upd (m1 14) 3 (m 7 3)) 4 (nI fr)) 5 (m 7 5))) 17 (va_cpy (m1 10) (m1 17) 0 0 8)) 18 (va_cpy (m1 11) (m1 18) 0 0 3)) 14 (upd (upd (upd (upd (m1 14) 3 (m 7 3)) 4 (nI fr)) 5 (m 7 5)) 8 (m 7 8))) 19 (va_cpy (m1 12) (m1 19) 0 0 8)) 20 (va_cpy (m1 13) (m1 20) 0 0 8)) rfl ?_
  refine r_return rfl dX5_copyFrom_137 (Nat.le_of_ble_eq_true rfl) (Nat.le_of_ble_eq_true rfl) ?_
  refine k _ ⟨?_, ?_, ?_, ?_, ?_⟩ g1 g2 (fun j hj => ?_) (fun j hj => ?_) (fun j hj => ?_) (fun j hj => ?_) (fun x hx => ?_)
  · show m1 14 0 = _; rw [g0]; rfl
  · rfl
  · exact hfr.symm
  · rfl
  · rfl
  · show va_cpy (m1 10) (m1 17) 0 0 8 j = _; unfold va_cpy; rw [if_pos ⟨Nat.zero_le j, by omega⟩, Nat.sub_zero, Nat.zero_add]; rw [u3]
  · show va_cpy (m1 11) (m1 18) 0 0 3 j = _; unfold va_cpy; rw [if_pos ⟨Nat.zero_le j, by omega⟩, Nat.sub_zero, Nat.zero_add]; rw [u4]
  · show va_cpy (m1 12) (m1 19) 0 0 8 j = _; unfold va_cpy; rw [if_pos ⟨Nat.zero_le j, by omega⟩, Nat.sub_zero, Nat.zero_add]; rw [u5]
  · show va_cpy (m1 13) (m1 20) 0 0 8 j = _; unfold va_cpy; rw [if_pos ⟨Nat.zero_le j, by omega⟩, Nat.sub_zero, Nat.zero_add]; rw [u6]
  · have hx' := hx
    simp only [List.mem_cons, List.not_mem_nil, or_false, not_or] at hx'
    obtain ⟨x0, x1, x2, x3, x4, x5, x6⟩ := hx'
    have e0 : m1 x = m x := hag x (by simp [x0, x1, x2])
    simp only [va_up, if_neg x0, if_neg x3, if_neg x4, if_neg x5, if_neg x6]
    exact e0

set_option maxHeartbeats 4000000 in
set_option maxRecDepth 20000 in
theorem lp_c_cf_7_14 {Q : am_P} {z : am_Z} {m : Nat → Nat → Int32} {n : Nat} {fr : Nat} (hbl : BL m 14) (hfr : m 14 4 = nI fr) (hr1 : fr ≤ 1) (kx : ∀ m', m' 7 = upd (m 7) 0 (m 14 0) → (∀ j, j < 6 → m' 8 j = m 15 j) → (∀ j, j < 6 → m' 9 j = m 16 j) → ag [7, 8, 9] m m' → AW mX5_copyFrom Q 46 [some (.ref 7), some (.ref 14), none] [] (wd z m') n 0 0) : ∀ (d c : Nat), c + d = 6 → ∀ m', m' 7 = upd (m 7) 0 (m 14 0) → (∀ j, j < c → m' 8 j = m 15 j) → (∀ j, j < c → m' 9 j = m 16 j) → ag [7, 8, 9] m m' → AW mX5_copyFrom Q 10 [some (.ref 7), some (.ref 14), some (.int (nI c))] [] (wd z m') n 0 0 := by
  intro d
  induction d with
  | zero =>
    intro c hc m' h0 h1 h2 hag
    obtain rfl : c = 6 := by omega
    refine r_iload_n 11 rfl 2 dX5_copyFrom_10 rfl rfl ?_
    refine r_bipush 13 rfl 6 dX5_copyFrom_11 (by decide) ?_
    refine r_icmp_ge 16 46 rfl dX5_copyFrom_13 rfl (fun _ => ?_) (fun q__ => absurd ((nI_leI (a := 6) (b := 6) (by omega) (by omega)).mpr (by omega)) q__)
    refine AW.drop 2 [some (.ref 7), some (.ref 14), none] rfl ?_
    exact kx m' h0 h1 h2 hag
  | succ d ih =>
    intro c hc m' h0 h1 h2 hag
    have t1 : m' 15 = m 15 := hag 15 (by decide)
    have t2 : m' 16 = m 16 := hag 16 (by decide)
    obtain ⟨b, hb, hb1⟩ : ∃ b : Nat, m 15 c = nI b ∧ b ≤ 1 := (hbl c (by omega)).elim (fun h => ⟨0, h, by decide⟩) (fun h => ⟨1, h, by decide⟩)
    have b1 : m' 15 c = nI b := by rw [t1]; exact hb
    have b2 : m' 16 c = m 16 c := by rw [t2]
    refine r_iload_n 11 rfl 2 dX5_copyFrom_10 rfl rfl ?_
    refine r_bipush 13 rfl 6 dX5_copyFrom_11 (by decide) ?_
    refine r_icmp_ge 16 46 rfl dX5_copyFrom_13 rfl (fun q__ => absurd q__ (fun q__ => absurd ((nI_leI (a := 6) (b := c) (by omega) (by omega)).mp q__) (by omega))) (fun _ => ?_)
    refine r_aload_n 17 rfl 0 dX5_copyFrom_16 rfl rfl ?_
    refine r_getf (v := .ref 8) (k := 1) 20 rfl dX5_copyFrom_17 (gf_X5_9_5 rfl) rfl rfl ?_
    refine r_iload_n 21 rfl 2 dX5_copyFrom_20 rfl rfl ?_
    refine r_aload_n 22 rfl 1 dX5_copyFrom_21 rfl rfl ?_
    refine r_getf (v := .ref 15) (k := 1) 25 rfl dX5_copyFrom_22 (gf_X5_9_5 rfl) rfl rfl ?_
    refine r_iload_n 26 rfl 2 dX5_copyFrom_25 rfl rfl ?_
    refine r_zald (f := m' 15) 27 rfl c dX5_copyFrom_26 (by decide) rfl rfl (by omega) (by decide) ?_
    rw [show (m' 15) c = nI b from b1]
    refine w_zast 28 rfl c (va_up m' 8 (upd (m' 8) c (nI b))) dX5_copyFrom_27 (by decide) (by decide) (fun _ => rfl) rfl (by omega) (by decide) (nz_b hb1) rfl ?_
    refine r_aload_n 29 rfl 0 dX5_copyFrom_28 rfl rfl ?_
    refine r_getf (v := .ref 9) (k := 2) 32 rfl dX5_copyFrom_29 (gf_X5_15_5 rfl) rfl rfl ?_
    refine r_iload_n 33 rfl 2 dX5_copyFrom_32 rfl rfl ?_
    refine r_aload_n 34 rfl 1 dX5_copyFrom_33 rfl rfl ?_
    refine r_getf (v := .ref 16) (k := 2) 37 rfl dX5_copyFrom_34 (gf_X5_15_5 rfl) rfl rfl ?_
    refine r_iload_n 38 rfl 2 dX5_copyFrom_37 rfl rfl ?_
    refine r_iald (f := m' 16) 39 rfl c dX5_copyFrom_38 rfl rfl (by omega) (by decide) ?_
    rw [show (m' 16) c = m 16 c from b2]
    refine w_iast 40 rfl c (va_up (va_up m' 8 (upd (m' 8) c (nI b))) 9 (upd (m' 9) c (m 16 c))) dX5_copyFrom_39 (by decide) (by decide) (fun _ => rfl) rfl (by omega) (by decide) rfl ?_
    refine r_iinc 43 rfl (nI (c + 1)) [some (.ref 7), some (.ref 14), some (.int (nI (c + 1)))] dX5_copyFrom_40 rfl (nI_1 _) (by decide) rfl ?_
    refine r_goto 10 dX5_copyFrom_43 rfl ?_
    refine ih (c + 1) (by omega) _ ?_ (fun j hj => ?_) (fun j hj => ?_) (ag_up (ag_up hag (by decide)) (by decide))
    · exact h0
    · show upd (m' 8) c _ j = _; unfold upd
      by_cases hjc : j = c
      · rw [if_pos hjc, hjc, hb]
      · rw [if_neg hjc]; exact h1 j (by omega)
    · show upd (m' 9) c _ j = _; unfold upd
      by_cases hjc : j = c
      · rw [if_pos hjc, hjc]
      · rw [if_neg hjc]; exact h2 j (by omega)
set_option maxHeartbeats 4000000 in
set_option maxRecDepth 20000 in
theorem c_cf_7_14 {Q : am_P} {z : am_Z} {m : Nat → Nat → Int32} {n : Nat} {fr : Nat} (hbl : BL m 14) (hfr : m 14 4 = nI fr) (hr1 : fr ≤ 1) (k : ∀ m', (m' 7 0 = m 14 0 ∧ m' 7 3 = m 14 3 ∧ m' 7 4 = m 14 4 ∧ m' 7 5 = m 14 5 ∧ m' 7 8 = m 14 8) → (∀ j, j < 6 → m' 8 j = m 15 j) → (∀ j, j < 6 → m' 9 j = m 16 j) → (∀ j, j < 8 → m' 10 j = m 17 j) → (∀ j, j < 3 → m' 11 j = m 18 j) → (∀ j, j < 8 → m' 12 j = m 19 j) → (∀ j, j < 8 → m' 13 j = m 20 j) → ag [7, 8, 9, 10, 11, 12, 13] m m' → Q none (wd z m') n) : AW mX5_copyFrom Q 0 (am_ent (am_l mX5_copyFrom) [.ref 7, .ref 14]) [] (wd z m) n 0 0 := by
  show AW _ _ 0 [some (.ref 7), some (.ref 14), none] [] _ _ 0 0
  refine r_aload_n 1 rfl 0 dX5_copyFrom_0 rfl rfl ?_
  refine r_aload_n 2 rfl 1 dX5_copyFrom_1 rfl rfl ?_
  refine r_getf (v := .int ((m 14) 0)) (k := 0) 5 rfl dX5_copyFrom_2 (gf_X5_31_5 rfl) rfl rfl ?_
  refine w_putf 8 rfl (k := 0) (va_up m 7 (upd (m 7) 0 ((m 14) 0))) dX5_copyFrom_5 (pf_X5_31_5 rfl) (by decide) (by decide) rfl (Nat.le_of_ble_eq_true rfl) rfl ⟨rfl, rfl⟩ rfl ?_
  refine r_iconst 9 rfl 0 dX5_copyFrom_8 rfl ?_
  refine r_istore_n 10 rfl 2 [some (.ref 7), some (.ref 14), some (.int 0)] dX5_copyFrom_9 rfl (by decide) rfl ?_
  refine lp_c_cf_7_14 hbl hfr hr1 (fun m1 g0 g1 g2 hag => ?_) 6 0 rfl (va_up m 7 (upd (m 7) 0 (m 14 0))) rfl (fun j hj => absurd hj (Nat.not_lt_zero j)) (fun j hj => absurd hj (Nat.not_lt_zero j)) (ag_up (ag_r _ _) (by decide))
  have u0 : m1 14 = m 14 := hag 14 (by decide)
  have u3 : m1 17 = m 17 := hag 17 (by decide)
  have u4 : m1 18 = m 18 := hag 18 (by decide)
  have u5 : m1 19 = m 19 := hag 19 (by decide)
  have u6 : m1 20 = m 20 := hag 20 (by decide)
  have u4f : m1 14 4 = nI fr := by rw [u0]; exact hfr
  refine r_aload_n 47 rfl 0 dX5_copyFrom_46 rfl rfl ?_
  refine r_aload_n 48 rfl 1 dX5_copyFrom_47 rfl rfl ?_
  refine r_getf (v := .int ((m1 14) 3)) (k := 3) 51 rfl dX5_copyFrom_48 (gf_X5_35_5 rfl) rfl rfl ?_
  rw [show (m1 14) 3 = m 14 3 from (by rw [u0])]
  refine w_putf 54 rfl (k := 3) (va_up m1 7 (upd (m1 7) 3 (m 14 3))) dX5_copyFrom_51 (pf_X5_35_5 rfl) (by decide) (by decide) rfl (Nat.le_of_ble_eq_true rfl) rfl ⟨rfl, rfl⟩ rfl ?_
  refine r_aload_n 55 rfl 0 dX5_copyFrom_54 rfl rfl ?_
  refine r_aload_n 56 rfl 1 dX5_copyFrom_55 rfl rfl ?_
  refine r_getf (v := .int ((m1 14) 4)) (k := 4) 59 rfl dX5_copyFrom_56 (gf_X5_38_5 rfl) rfl rfl ?_
  rw [show (m1 14) 4 = nI fr from u4f]
  refine w_putf 62 rfl (k := 4) (va_up (va_up m1 7 (upd (m1 7) 3 (m 14 3))) 7 (upd (upd (m1 7) 3 (m 14 3)) 4 (nI fr))) dX5_copyFrom_59 (pf_X5_38_5 rfl) (by decide) (by decide) rfl (Nat.le_of_ble_eq_true rfl) rfl ⟨nz_b hr1, fz_b hr1⟩ rfl ?_
  refine r_aload_n 63 rfl 0 dX5_copyFrom_62 rfl rfl ?_
  refine r_aload_n 64 rfl 1 dX5_copyFrom_63 rfl rfl ?_
  refine r_getf (v := .int ((m1 14) 5)) (k := 5) 67 rfl dX5_copyFrom_64 (gf_X5_42_5 rfl) rfl rfl ?_
  rw [show (m1 14) 5 = m 14 5 from (by rw [u0])]
  refine w_putf 70 rfl (k := 5) (va_up (va_up (va_up m1 7 (upd (m1 7) 3 (m 14 3))) 7 (upd (upd (m1 7) 3 (m 14 3)) 4 (nI fr))) 7 (upd (upd (upd (m1 7) 3 (m 14 3)) 4 (nI fr)) 5 (m 14 5))) dX5_copyFrom_67 (pf_X5_42_5 rfl) (by decide) (by decide) rfl (Nat.le_of_ble_eq_true rfl) rfl ⟨rfl, rfl⟩ rfl ?_
  refine r_aload_n 71 rfl 1 dX5_copyFrom_70 rfl rfl ?_
  refine r_getf (v := .ref 17) (k := 6) 74 rfl dX5_copyFrom_71 (gf_X5_19_5 rfl) rfl rfl ?_
  refine r_iconst 75 rfl 0 dX5_copyFrom_74 rfl ?_
  refine r_aload_n 76 rfl 0 dX5_copyFrom_75 rfl rfl ?_
  refine r_getf (v := .ref 10) (k := 6) 79 rfl dX5_copyFrom_76 (gf_X5_19_5 rfl) rfl rfl ?_
  refine r_iconst 80 rfl 0 dX5_copyFrom_79 rfl ?_
  refine r_bipush 82 rfl 8 dX5_copyFrom_80 (by decide) ?_
  refine w_copy 85 rfl dX5_copyFrom_82 (lk_X5_45 rfl) (by decide) (by decide) (by decide) rfl (fun _ => rfl) rfl (by decide) (by decide) (Nat.le_of_ble_eq_true rfl) (va_up (va_up (va_up (va_up m1 7 (upd (m1 7) 3 (m 14 3))) 7 (upd (upd (m1 7) 3 (m 14 3)) 4 (nI fr))) 7 (upd (upd (upd (m1 7) 3 (m 14 3)) 4 (nI fr)) 5 (m 14 5))) 10 (va_cpy (m1 17) (m1 10) 0 0 8)) rfl ?_
  refine r_aload_n 86 rfl 1 dX5_copyFrom_85 rfl rfl ?_
  refine r_getf (v := .ref 18) (k := 7) 89 rfl dX5_copyFrom_86 (gf_X5_22_5 rfl) rfl rfl ?_
  refine r_iconst 90 rfl 0 dX5_copyFrom_89 rfl ?_
  refine r_aload_n 91 rfl 0 dX5_copyFrom_90 rfl rfl ?_
  refine r_getf (v := .ref 11) (k := 7) 94 rfl dX5_copyFrom_91 (gf_X5_22_5 rfl) rfl rfl ?_
  refine r_iconst 95 rfl 0 dX5_copyFrom_94 rfl ?_
  refine r_iconst 96 rfl 3 dX5_copyFrom_95 rfl ?_
  refine w_copy 99 rfl dX5_copyFrom_96 (lk_X5_45 rfl) (by decide) (by decide) (by decide) rfl (fun _ => rfl) rfl (by decide) (by decide) (Nat.le_of_ble_eq_true rfl) (va_up (va_up (va_up (va_up (va_up m1 7 (upd (m1 7) 3 (m 14 3))) 7 (upd (upd (m1 7) 3 (m 14 3)) 4 (nI fr))) 7 (upd (upd (upd (m1 7) 3 (m 14 3)) 4 (nI fr)) 5 (m 14 5))) 10 (va_cpy (m1 17) (m1 10) 0 0 8)) 11 (va_cpy (m1 18) (m1 11) 0 0 3)) rfl ?_
  refine r_aload_n 100 rfl 0 dX5_copyFrom_99 rfl rfl ?_
  refine r_aload_n 101 rfl 1 dX5_copyFrom_100 rfl rfl ?_
  refine r_getf (v := .int ((m1 14) 8)) (k := 8) 104 rfl dX5_copyFrom_101 (gf_X5_51_5 rfl) rfl rfl ?_
  rw [show (m1 14) 8 = m 14 8 from (by rw [u0])]
  refine w_putf 107 rfl (k := 8) (va_up (va_up (va_up (va_up (va_up (va_up m1 7 (upd (m1 7) 3 (m 14 3))) 7 (upd (upd (m1 7) 3 (m 14 3)) 4 (nI fr))) 7 (upd (upd (upd (m1 7) 3 (m 14 3)) 4 (nI fr)) 5 (m 14 5))) 10 (va_cpy (m1 17) (m1 10) 0 0 8)) 11 (va_cpy (m1 18) (m1 11) 0 0 3)) 7 (upd (upd (upd (upd (m1 7) 3 (m 14 3)) 4 (nI fr)) 5 (m 14 5)) 8 (m 14 8))) dX5_copyFrom_104 (pf_X5_51_5 rfl) (by decide) (by decide) rfl (Nat.le_of_ble_eq_true rfl) rfl ⟨rfl, rfl⟩ rfl ?_
  refine r_aload_n 108 rfl 1 dX5_copyFrom_107 rfl rfl ?_
  refine r_getf (v := .ref 19) (k := 9) 111 rfl dX5_copyFrom_108 (gf_X5_25_5 rfl) rfl rfl ?_
  refine r_iconst 112 rfl 0 dX5_copyFrom_111 rfl ?_
  refine r_aload_n 113 rfl 0 dX5_copyFrom_112 rfl rfl ?_
  refine r_getf (v := .ref 12) (k := 9) 116 rfl dX5_copyFrom_113 (gf_X5_25_5 rfl) rfl rfl ?_
  refine r_iconst 117 rfl 0 dX5_copyFrom_116 rfl ?_
  refine r_bipush 119 rfl 8 dX5_copyFrom_117 (by decide) ?_
  refine w_copy 122 rfl dX5_copyFrom_119 (lk_X5_45 rfl) (by decide) (by decide) (by decide) rfl (fun _ => rfl) rfl (by decide) (by decide) (Nat.le_of_ble_eq_true rfl) (va_up (va_up (va_up (va_up (va_up (va_up (va_up m1 7 (upd (m1 7) 3 (m 14 3))) 7 (upd (upd (m1 7) 3 (m 14 3)) 4 (nI fr))) 7 (upd (upd (upd (m1 7) 3 (m 14 3)) 4 (nI fr)) 5 (m 14 5))) 10 (va_cpy (m1 17) (m1 10) 0 0 8)) 11 (va_cpy (m1 18) (m1 11) 0 0 3)) 7 (upd (upd (upd (upd (m1 7) 3 (m 14 3)) 4 (nI fr)) 5 (m 14 5)) 8 (m 14 8))) 12 (va_cpy (m1 19) (m1 12) 0 0 8)) rfl ?_
  refine r_aload_n 123 rfl 1 dX5_copyFrom_122 rfl rfl ?_
  refine r_getf (v := .ref 20) (k := 10) 126 rfl dX5_copyFrom_123 (gf_X5_28_5 rfl) rfl rfl ?_
  refine r_iconst 127 rfl 0 dX5_copyFrom_126 rfl ?_
  refine r_aload_n 128 rfl 0 dX5_copyFrom_127 rfl rfl ?_
  refine r_getf (v := .ref 13) (k := 10) 131 rfl dX5_copyFrom_128 (gf_X5_28_5 rfl) rfl rfl ?_
  refine r_iconst 132 rfl 0 dX5_copyFrom_131 rfl ?_
  refine r_bipush 134 rfl 8 dX5_copyFrom_132 (by decide) ?_
  refine w_copy 137 rfl dX5_copyFrom_134 (lk_X5_45 rfl) (by decide) (by decide) (by decide) rfl (fun _ => rfl) rfl (by decide) (by decide) (Nat.le_of_ble_eq_true rfl) (va_up (va_up (va_up (va_up (va_up (va_up (va_up (va_up m1 7 (upd (m1 7) 3 (m 14 3))) 7 (upd (upd (m1 7) 3 (m 14 3)) 4 (nI fr))) 7 (upd (upd (upd (m1 7) 3 (m 14 3)) 4 (nI fr)) 5 (m 14 5))) 10 (va_cpy (m1 17) (m1 10) 0 0 8)) 11 (va_cpy (m1 18) (m1 11) 0 0 3)) 7 (upd (upd (upd (upd (m1 7) 3 (m 14 3)) 4 (nI fr)) 5 (m 14 5)) 8 (m 14 8))) 12 (va_cpy (m1 19) (m1 12) 0 0 8)) 13 (va_cpy (m1 20) (m1 13) 0 0 8)) rfl ?_
  refine r_return rfl dX5_copyFrom_137 (Nat.le_of_ble_eq_true rfl) (Nat.le_of_ble_eq_true rfl) ?_
  refine k _ ⟨?_, ?_, ?_, ?_, ?_⟩ g1 g2 (fun j hj => ?_) (fun j hj => ?_) (fun j hj => ?_) (fun j hj => ?_) (fun x hx => ?_)
  · show m1 7 0 = _; rw [g0]; rfl
  · rfl
  · exact hfr.symm
  · rfl
  · rfl
  · show va_cpy (m1 17) (m1 10) 0 0 8 j = _; unfold va_cpy; rw [if_pos ⟨Nat.zero_le j, by omega⟩, Nat.sub_zero, Nat.zero_add]; rw [u3]
  · show va_cpy (m1 18) (m1 11) 0 0 3 j = _; unfold va_cpy; rw [if_pos ⟨Nat.zero_le j, by omega⟩, Nat.sub_zero, Nat.zero_add]; rw [u4]
  · show va_cpy (m1 19) (m1 12) 0 0 8 j = _; unfold va_cpy; rw [if_pos ⟨Nat.zero_le j, by omega⟩, Nat.sub_zero, Nat.zero_add]; rw [u5]
  · show va_cpy (m1 20) (m1 13) 0 0 8 j = _; unfold va_cpy; rw [if_pos ⟨Nat.zero_le j, by omega⟩, Nat.sub_zero, Nat.zero_add]; rw [u6]
  · have hx' := hx
    simp only [List.mem_cons, List.not_mem_nil, or_false, not_or] at hx'
    obtain ⟨x0, x1, x2, x3, x4, x5, x6⟩ := hx'
    have e0 : m1 x = m x := hag x (by simp [x0, x1, x2])
    simp only [va_up, if_neg x0, if_neg x3, if_neg x4, if_neg x5, if_neg x6]
    exact e0
