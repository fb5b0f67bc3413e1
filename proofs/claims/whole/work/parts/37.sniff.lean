def fD (D : Nat → Nat → Nat) (k c : Nat) : Nat := ix (WX D (k / 9 % 3) (k / 27) (k % 9 + 1) c)
def gD (D : Nat → Nat → Nat) : Nat → Nat → Nat := fun k c => if fD D k c = 0 then 3 else fD D k c - 1
theorem fD_c {D : Nat → Nat → Nat} (hp : ∀ s, s < D 7 1 → D 2 s < 3) (k c : Nat) : (WX D (k / 9 % 3) (k / 27) (k % 9 + 1) c = -1 ∧ fD D k c = 0) ∨ ∃ p, p < 3 ∧ WX D (k / 9 % 3) (k / 27) (k % 9 + 1) c = nI p ∧ fD D k c = p + 1 := by
  unfold fD
  rcases WX_cases (D := D) (pa := k / 9 % 3) (ce := k / 27) (sg := k % 9 + 1) (by omega) hp c with h | ⟨p, h1, h2⟩
  · exact Or.inl ⟨h, by rw [h]; rfl⟩
  · exact Or.inr ⟨p, h1, h2, by rw [h2, ix_n (by omega)]⟩
theorem fD_lt {D : Nat → Nat → Nat} (hp : ∀ s, s < D 7 1 → D 2 s < 3) (k c : Nat) : fD D k c < 4 := by
  rcases fD_c hp k c with h | ⟨p, h1, h2, h3⟩ <;> omega
/-- the tally while the cells of one number are gone through -/
def tq (P : Nat → Bool) (f : Nat → Nat → Nat) (k c i : Nat) : Nat := tl P f i k + (if i / 4 < c ∧ f k (i / 4) = i % 4 then 1 else 0)
theorem tq_le (P : Nat → Bool) (f : Nat → Nat → Nat) (k c i : Nat) : tq P f k c i ≤ k + 1 := by
  unfold tq
  have := tl_le P f i k
  split <;> omega
theorem tq_0 (P : Nat → Bool) (f : Nat → Nat → Nat) (k i : Nat) : tq P f k 0 i = tl P f i k := by
  unfold tq
  rw [if_neg (fun q => Nat.not_lt_zero _ q.1)]
  rfl
theorem tq_8 {P : Nat → Bool} {f : Nat → Nat → Nat} {k i : Nat} (hP : P k = true) (hi : i < 32) : tq P f k 8 i = tl P f i (k + 1) := by
  unfold tq
  show _ = tl P f i k + (if P k = true ∧ f k (i / 4) = i % 4 then 1 else 0)
  have h8 : i / 4 < 8 := by omega
  simp [hP, h8]
theorem tq_f {P : Nat → Bool} {f : Nat → Nat → Nat} {k i : Nat} (hP : ¬ P k = true) : tl P f i (k + 1) = tl P f i k := by
  show tl P f i k + (if P k = true ∧ f k (i / 4) = i % 4 then 1 else 0) = _
  rw [if_neg (fun q => hP q.1)]
  rfl
theorem tq_s {P : Nat → Bool} {f : Nat → Nat → Nat} {k c q : Nat} (hf : f k c = q) (hq : q < 4) (i : Nat) : tq P f k (c + 1) i = if i = c * 4 + q then tq P f k c i + 1 else tq P f k c i := by
  unfold tq
  by_cases h : i = c * 4 + q
  · rw [if_pos h, if_pos (by rw [show i / 4 = c by omega, show i % 4 = q by omega]; exact ⟨by omega, hf⟩), if_neg (fun x => by have := x.1; omega)]
  · rw [if_neg h]
    congr 1
    by_cases h1 : i / 4 < c ∧ f k (i / 4) = i % 4
    · rw [if_pos h1, if_pos ⟨by omega, h1.2⟩]
    · rw [if_neg h1, if_neg (fun x => ?_)]
      by_cases h2 : i / 4 = c
      · have h3 := x.2
        rw [h2, hf] at h3
        omega
      · exact h1 ⟨by have := x.1; omega, x.2⟩
theorem nI_mp (x : Nat) : nI x + (-1) + 1 = nI x := by
  rw [Int32.add_assoc]
  exact Int32.add_zero _

set_option maxHeartbeats 4000000 in
set_option maxRecDepth 20000 in
theorem lp_tf0 {Q : am_P} {z : am_Z} {m : Nat → Nat → Int32} {n : Nat} (kx : ∀ m', (∀ j, j < 32 → m' 36 j = 0) → ag [36] m m' → AW mX9_tallyFindings Q 24 [some (.ref 1), none, none, none, none] [] (wd z m') n 0 0) : ∀ (d c : Nat), c + d = 32 → ∀ m', (∀ j, j < c → m' 36 j = 0) → ag [36] m m' → AW mX9_tallyFindings Q 2 [some (.ref 1), some (.int (nI c)), none, none, none] [] (wd z m') n 0 0 := by
  intro d
  induction d with
  | zero =>
    intro c hc m' h0 hag
    obtain rfl : c = 32 := by omega
    refine r_iload_n 3 rfl 1 dX9_tallyFindings_2 rfl rfl ?_
    refine r_aload_n 4 rfl 0 dX9_tallyFindings_3 rfl rfl ?_
    refine r_getf (v := .ref 36) (k := 10) 7 rfl dX9_tallyFindings_4 (gf_X9_59_9 rfl) rfl rfl ?_
    refine r_alen 8 rfl dX9_tallyFindings_7 rfl ?_
    refine r_icmp_ge 11 24 rfl dX9_tallyFindings_8 rfl (fun _ => ?_) (fun q__ => absurd ((nI_leI (a := 32) (b := 32) (by omega) (by omega)).mpr (by omega)) q__)
    refine AW.drop 1 [some (.ref 1), none, none, none, none] rfl ?_
    exact kx m' h0 hag
  | succ d ih =>
    intro c hc m' h0 hag
    refine r_iload_n 3 rfl 1 dX9_tallyFindings_2 rfl rfl ?_
    refine r_aload_n 4 rfl 0 dX9_tallyFindings_3 rfl rfl ?_
    refine r_getf (v := .ref 36) (k := 10) 7 rfl dX9_tallyFindings_4 (gf_X9_59_9 rfl) rfl rfl ?_
    refine r_alen 8 rfl dX9_tallyFindings_7 rfl ?_
    refine r_icmp_ge 11 24 rfl dX9_tallyFindings_8 rfl (fun q__ => absurd q__ (fun q__ => absurd ((nI_leI (a := 32) (b := c) (by omega) (by omega)).mp q__) (by omega))) (fun _ => ?_)
    refine r_aload_n 12 rfl 0 dX9_tallyFindings_11 rfl rfl ?_
    refine r_getf (v := .ref 36) (k := 10) 15 rfl dX9_tallyFindings_12 (gf_X9_59_9 rfl) rfl rfl ?_
    refine r_iload_n 16 rfl 1 dX9_tallyFindings_15 rfl rfl ?_
    refine r_iconst 17 rfl 0 dX9_tallyFindings_16 rfl ?_
    refine w_iast 18 rfl c (va_up m' 36 (upd (m' 36) c 0)) dX9_tallyFindings_17 (by decide) (by decide) (fun _ => rfl) rfl (by omega) (by decide) rfl ?_
    refine r_iinc 21 rfl (nI (c + 1)) [some (.ref 1), some (.int (nI (c + 1))), none, none, none] dX9_tallyFindings_18 rfl (nI_1 _) (by decide) rfl ?_
    refine r_goto 2 dX9_tallyFindings_21 rfl ?_
    refine ih (c + 1) (by omega) _ (fun j hj => ?_) (ag_up hag (by decide))
    rw [va_up_self]; unfold upd
    by_cases h : j = c
    · rw [if_pos h]
    · rw [if_neg h]; exact h0 j (by omega)

set_option maxHeartbeats 4000000 in
set_option maxRecDepth 20000 in
theorem lp_tf1 {Q : am_P} {z : am_Z} {m : Nat → Nat → Int32} {n : Nat} {D : Nat → Nat → Nat} (hC : C9 z m D) (hA : AIR m D) {P : Nat → Bool} {k x : Nat} (hk : k < 216) (hP : P k = true) (h33 : ∀ j, j < 8 → m 33 j = nI (LF D (k / 27) (k % 9 + 1) j)) (kx : ∀ m', (∀ j, j < 32 → m' 36 j = nI (tl P (fD D) j (k + 1))) → ag [36] m m' → AW mX9_tallyFindings Q 88 [some (.ref 1), some (.int (nI x)), some (.int (nI k)), none, none] [] (wd z m') n 0 0) : ∀ (d c : Nat), c + d = 8 → ∀ m', (∀ j, j < 32 → m' 36 j = nI (tq P (fD D) k c j)) → ag [36] m m' → AW mX9_tallyFindings Q 48 [some (.ref 1), some (.int (nI x)), some (.int (nI k)), some (.int (nI c)), none] [] (wd z m') n 0 0 := by
  intro d
  induction d with
  | zero =>
    intro c hc m' ht hag
    obtain rfl : c = 8 := by omega
    refine r_iload_n 49 rfl 3 dX9_tallyFindings_48 rfl rfl ?_
    refine r_bipush 51 rfl 8 dX9_tallyFindings_49 (by decide) ?_
    refine r_icmp_ge 54 88 rfl dX9_tallyFindings_51 rfl (fun _ => ?_) (fun q__ => absurd ((nI_leI (a := 8) (b := 8) (by omega) (by omega)).mpr (by omega)) q__)
    refine AW.drop 3 [some (.ref 1), some (.int (nI x)), some (.int (nI k)), none, none] rfl ?_
    exact kx m' (fun j hj => (ht j hj).trans (by rw [tq_8 hP hj])) hag
  | succ d ih =>
    intro c hc m' ht hag
    have hC' := C9_ag hC hag (by decide)
    have hA' := AIR_ag hA hag (by decide)
    have h33' : m' 33 c = nI (LF D (k / 27) (k % 9 + 1) c) := by rw [hag 33 (by decide)]; exact h33 c (by omega)
    rcases fD_c (fun s hs => by obtain ⟨_, _, _, _, _, h, _⟩ := hC.2.2.2.2.2.2.1 s hs; exact h) k c with ⟨hv, hf⟩ | ⟨p, hp3, hv, hf⟩
    · have hti := ht (c * 4) (by omega)
      have hle := tq_le P (fD D) k c (c * 4)
      refine r_iload_n 49 rfl 3 dX9_tallyFindings_48 rfl rfl ?_
      refine r_bipush 51 rfl 8 dX9_tallyFindings_49 (by decide) ?_
      refine r_icmp_ge 54 88 rfl dX9_tallyFindings_51 rfl (fun q__ => absurd q__ (fun q__ => absurd ((nI_leI (a := 8) (b := c) (by omega) (by omega)).mp q__) (by omega))) (fun _ => ?_)
      refine r_aload_n 55 rfl 0 dX9_tallyFindings_54 rfl rfl ?_
      refine r_iload_n 56 rfl 3 dX9_tallyFindings_55 rfl rfl ?_
      refine r_iload_n 57 rfl 2 dX9_tallyFindings_56 rfl rfl ?_
      refine q_S 60 0 0 rfl [.int (nI k)] rfl dX9_tallyFindings_57 cl_X9_tallyFindings__X9_parishOf (lk_X9_328 rfl) st_X9_parishOf (Nat.le_of_ble_eq_true rfl) (fun _ _ => Nat.le_of_ble_eq_true rfl) rfl rfl (Nat.le_of_ble_eq_true rfl) (Nat.le_of_ble_eq_true rfl) ?_
      refine c_parishOf hk (k_i ?_)
      refine q_V 63 0 0 rfl [.int (nI c), .int (nI (k / 9 % 3))] rfl dX9_tallyFindings_60 cl_X9_tallyFindings__X9_whoseWith (lk_X9_334 rfl) im_X9_whoseWith (ci := 9) rfl sl_X9__X9_whoseWith rfl (Nat.le_of_ble_eq_true rfl) (fun _ _ => Nat.le_of_ble_eq_true rfl) rfl rfl (Nat.le_of_ble_eq_true rfl) (Nat.le_of_ble_eq_true rfl) ?_
      refine c_whoseWith hC' hA' (pa := k / 9 % 3) (ce := k / 27) (sg := k % 9 + 1) (by omega) (by omega) h33' (k_i ?_)
      rw [hv]
      refine r_istore 65 rfl [some (.ref 1), some (.int (nI x)), some (.int (nI k)), some (.int (nI c)), some (.int (-1))] dX9_tallyFindings_63 (by decide) rfl ?_
      refine r_aload_n 66 rfl 0 dX9_tallyFindings_65 rfl rfl ?_
      refine r_getf (v := .ref 36) (k := 10) 69 rfl dX9_tallyFindings_66 (gf_X9_59_9 rfl) rfl rfl ?_
      refine r_iload_n 70 rfl 3 dX9_tallyFindings_69 rfl rfl ?_
      refine r_iconst 71 rfl 4 dX9_tallyFindings_70 rfl ?_
      refine r_imul 72 rfl dX9_tallyFindings_71 ?_
      rw [show (nI c) * 4 = nI (c * 4) from pk_mul c 4]
      refine r_iload 74 rfl dX9_tallyFindings_72 rfl ?_
      refine r_iadd 75 rfl dX9_tallyFindings_74 ?_
      refine r_iconst 76 rfl 1 dX9_tallyFindings_75 rfl ?_
      refine r_iadd 77 rfl dX9_tallyFindings_76 ?_
      rw [show ((nI (c * 4)) + (-1)) + 1 = nI (c * 4) from nI_mp _]
      refine r_dup2 78 rfl dX9_tallyFindings_77 rfl rfl ?_
      refine r_iald (f := m' 36) 79 rfl (c * 4) dX9_tallyFindings_78 rfl rfl (by omega) (by decide) ?_
      rw [show (m' 36) (c * 4) = nI (tq P (fD D) k c (c * 4)) from hti]
      refine r_iconst 80 rfl 1 dX9_tallyFindings_79 rfl ?_
      refine r_iadd 81 rfl dX9_tallyFindings_80 ?_
      rw [show (nI (tq P (fD D) k c (c * 4))) + 1 = nI ((tq P (fD D) k c (c * 4)) + 1) from nI_add (tq P (fD D) k c (c * 4)) 1]
      refine w_iast 82 rfl (c * 4) (va_up m' 36 (upd (m' 36) (c * 4) (nI ((tq P (fD D) k c (c * 4)) + 1)))) dX9_tallyFindings_81 (by decide) (by decide) (fun _ => rfl) rfl (by omega) (by decide) rfl ?_
      refine r_iinc 85 rfl (nI (c + 1)) [some (.ref 1), some (.int (nI x)), some (.int (nI k)), some (.int (nI (c + 1))), some (.int (-1))] dX9_tallyFindings_82 rfl (nI_1 _) (by decide) rfl ?_
      refine r_goto 48 dX9_tallyFindings_85 rfl ?_
      refine AW.drop 4 [some (.ref 1), some (.int (nI x)), some (.int (nI k)), some (.int (nI (c + 1))), none] rfl ?_
      refine ih (c + 1) (by omega) _ (fun j hj => ?_) (ag_up hag (by decide))
      rw [va_up_self, tq_s hf (by omega)]
      unfold upd
      by_cases h : j = c * 4
      · rw [if_pos h, if_pos (by omega), h]
      · rw [if_neg h, if_neg (by omega)]; exact ht j hj
    · have hti := ht (c * 4 + p + 1) (by omega)
      have hle := tq_le P (fD D) k c (c * 4 + p + 1)
      refine r_iload_n 49 rfl 3 dX9_tallyFindings_48 rfl rfl ?_
      refine r_bipush 51 rfl 8 dX9_tallyFindings_49 (by decide) ?_
      refine r_icmp_ge 54 88 rfl dX9_tallyFindings_51 rfl (fun q__ => absurd q__ (fun q__ => absurd ((nI_leI (a := 8) (b := c) (by omega) (by omega)).mp q__) (by omega))) (fun _ => ?_)
      refine r_aload_n 55 rfl 0 dX9_tallyFindings_54 rfl rfl ?_
      refine r_iload_n 56 rfl 3 dX9_tallyFindings_55 rfl rfl ?_
      refine r_iload_n 57 rfl 2 dX9_tallyFindings_56 rfl rfl ?_
      refine q_S 60 0 0 rfl [.int (nI k)] rfl dX9_tallyFindings_57 cl_X9_tallyFindings__X9_parishOf (lk_X9_328 rfl) st_X9_parishOf (Nat.le_of_ble_eq_true rfl) (fun _ _ => Nat.le_of_ble_eq_true rfl) rfl rfl (Nat.le_of_ble_eq_true rfl) (Nat.le_of_ble_eq_true rfl) ?_
      refine c_parishOf hk (k_i ?_)
      refine q_V 63 0 0 rfl [.int (nI c), .int (nI (k / 9 % 3))] rfl dX9_tallyFindings_60 cl_X9_tallyFindings__X9_whoseWith (lk_X9_334 rfl) im_X9_whoseWith (ci := 9) rfl sl_X9__X9_whoseWith rfl (Nat.le_of_ble_eq_true rfl) (fun _ _ => Nat.le_of_ble_eq_true rfl) rfl rfl (Nat.le_of_ble_eq_true rfl) (Nat.le_of_ble_eq_true rfl) ?_
      refine c_whoseWith hC' hA' (pa := k / 9 % 3) (ce := k / 27) (sg := k % 9 + 1) (by omega) (by omega) h33' (k_i ?_)
      rw [hv]
      refine r_istore 65 rfl [some (.ref 1), some (.int (nI x)), some (.int (nI k)), some (.int (nI c)), some (.int (nI p))] dX9_tallyFindings_63 (by decide) rfl ?_
      refine r_aload_n 66 rfl 0 dX9_tallyFindings_65 rfl rfl ?_
      refine r_getf (v := .ref 36) (k := 10) 69 rfl dX9_tallyFindings_66 (gf_X9_59_9 rfl) rfl rfl ?_
      refine r_iload_n 70 rfl 3 dX9_tallyFindings_69 rfl rfl ?_
      refine r_iconst 71 rfl 4 dX9_tallyFindings_70 rfl ?_
      refine r_imul 72 rfl dX9_tallyFindings_71 ?_
      rw [show (nI c) * 4 = nI (c * 4) from pk_mul c 4]
      refine r_iload 74 rfl dX9_tallyFindings_72 rfl ?_
      refine r_iadd 75 rfl dX9_tallyFindings_74 ?_
      rw [show (nI (c * 4)) + (nI p) = nI ((c * 4) + p) from nI_add (c * 4) p]
      refine r_iconst 76 rfl 1 dX9_tallyFindings_75 rfl ?_
      refine r_iadd 77 rfl dX9_tallyFindings_76 ?_
      rw [show (nI ((c * 4) + p)) + 1 = nI (((c * 4) + p) + 1) from nI_add ((c * 4) + p) 1]
      refine r_dup2 78 rfl dX9_tallyFindings_77 rfl rfl ?_
      refine r_iald (f := m' 36) 79 rfl (c * 4 + p + 1) dX9_tallyFindings_78 rfl rfl (by omega) (by decide) ?_
      rw [show (m' 36) (c * 4 + p + 1) = nI (tq P (fD D) k c (c * 4 + p + 1)) from hti]
      refine r_iconst 80 rfl 1 dX9_tallyFindings_79 rfl ?_
      refine r_iadd 81 rfl dX9_tallyFindings_80 ?_
      rw [show (nI (tq P (fD D) k c (c * 4 + p + 1))) + 1 = nI ((tq P (fD D) k c (c * 4 + p + 1)) + 1) from nI_add (tq P (fD D) k c (c * 4 + p + 1)) 1]
      refine w_iast 82 rfl (((c * 4) + p) + 1) (va_up m' 36 (upd (m' 36) (((c * 4) + p) + 1) (nI ((tq P (fD D) k c (c * 4 + p + 1)) + 1)))) dX9_tallyFindings_81 (by decide) (by decide) (fun _ => rfl) rfl (by omega) (by decide) rfl ?_
      refine r_iinc 85 rfl (nI (c + 1)) [some (.ref 1), some (.int (nI x)), some (.int (nI k)), some (.int (nI (c + 1))), some (.int (nI p))] dX9_tallyFindings_82 rfl (nI_1 _) (by decide) rfl ?_
      refine r_goto 48 dX9_tallyFindings_85 rfl ?_
      refine AW.drop 4 [some (.ref 1), some (.int (nI x)), some (.int (nI k)), some (.int (nI (c + 1))), none] rfl ?_
      refine ih (c + 1) (by omega) _ (fun j hj => ?_) (ag_up hag (by decide))
      rw [va_up_self, tq_s hf (by omega)]
      unfold upd
      by_cases h : j = c * 4 + p + 1
      · rw [if_pos h, if_pos (by omega), h]
      · rw [if_neg h, if_neg (by omega)]; exact ht j hj

set_option maxHeartbeats 4000000 in
set_option maxRecDepth 20000 in
theorem lp_sn1 {Q : am_P} {z : am_Z} {m : Nat → Nat → Int32} {n : Nat} {D : Nat → Nat → Nat} (hpa : ∀ s, s < D 7 1 → D 2 s < 3) (hn : D 7 1 ≤ 6) {P : Nat → Bool} {k x : Nat} (hk : k < 216) (hP : P k = true) (h44 : ∀ j, j < 8 → m 44 j = BY (XT D (k / 9 % 3) (k / 27) (k % 9 + 1)) j) (h42 : ∀ s, s < D 7 1 + 1 → m 42 (6 * s + 1) = nI (XT D (k / 9 % 3) (k / 27) (k % 9 + 1) 2 s)) (kx : ∀ m', (∀ j, j < 32 → m' 49 j = nI (tl P (gD D) j (k + 1))) → ag [49] m m' → AW mX10_sniff Q 117 [some (.ref 37), some (.int (nI x)), some (.int (nI k)), none, none, none, none] [] (wd z m') n 0 0) : ∀ (d c : Nat), c + d = 8 → ∀ m', (∀ j, j < 32 → m' 49 j = nI (tq P (gD D) k c j)) → ag [49] m m' → AW mX10_sniff Q 74 [some (.ref 37), some (.int (nI x)), some (.int (nI k)), some (.int (nI c)), none, none, none] [] (wd z m') n 0 0 := by
  intro d
  induction d with
  | zero =>
    intro c hc m' ht hag
    obtain rfl : c = 8 := by omega
    refine r_iload_n 75 rfl 3 dX10_sniff_74 rfl rfl ?_
    refine r_bipush 77 rfl 8 dX10_sniff_75 (by decide) ?_
    refine r_icmp_ge 80 117 rfl dX10_sniff_77 rfl (fun _ => ?_) (fun q__ => absurd ((nI_leI (a := 8) (b := 8) (by omega) (by omega)).mpr (by omega)) q__)
    refine AW.drop 3 [some (.ref 37), some (.int (nI x)), some (.int (nI k)), none, none, none, none] rfl ?_
    exact kx m' (fun j hj => (ht j hj).trans (by rw [tq_8 hP hj])) hag
  | succ d ih =>
    intro c hc m' ht hag
    have h44' : ∀ j, j < 8 → m' 44 j = BY (XT D (k / 9 % 3) (k / 27) (k % 9 + 1)) j := fun j hj => by rw [hag 44 (by decide)]; exact h44 j hj
    have h42' : ∀ s, s < D 7 1 + 1 → m' 42 (6 * s + 1) = nI (XT D (k / 9 % 3) (k / 27) (k % 9 + 1) 2 s) := fun s hs => by rw [hag 42 (by decide)]; exact h42 s hs
    rcases fD_c hpa k c with ⟨hv, hf⟩ | ⟨p, hp3, hv, hf⟩
    · have hf : gD D k c = 3 := by unfold gD; rw [hf]; rfl
      have hti := ht (4 * c + 3) (by omega)
      have hle := tq_le P (gD D) k c (4 * c + 3)
      refine r_iload_n 75 rfl 3 dX10_sniff_74 rfl rfl ?_
      refine r_bipush 77 rfl 8 dX10_sniff_75 (by decide) ?_
      refine r_icmp_ge 80 117 rfl dX10_sniff_77 rfl (fun q__ => absurd q__ (fun q__ => absurd ((nI_leI (a := 8) (b := c) (by omega) (by omega)).mp q__) (by omega))) (fun _ => ?_)
      refine r_aload_n 81 rfl 0 dX10_sniff_80 rfl rfl ?_
      refine r_getf (v := .ref 49) (k := 21) 84 rfl dX10_sniff_81 (gf_X10_43_10 rfl) rfl rfl ?_
      refine r_iconst 85 rfl 4 dX10_sniff_84 rfl ?_
      refine r_iload_n 86 rfl 3 dX10_sniff_85 rfl rfl ?_
      refine r_imul 87 rfl dX10_sniff_86 ?_
      rw [show 4 * (nI c) = nI (4 * c) from pk_mul 4 c]
      refine r_aload_n 88 rfl 0 dX10_sniff_87 rfl rfl ?_
      refine r_iload_n 89 rfl 3 dX10_sniff_88 rfl rfl ?_
      refine q_V 92 0 0 rfl [.int (nI c)] rfl dX10_sniff_89 cl_X10_sniff__X10_whose (lk_X10_152 rfl) im_X10_whose (ci := 10) rfl sl_X10__X10_whose rfl (Nat.le_of_ble_eq_true rfl) (fun _ _ => Nat.le_of_ble_eq_true rfl) rfl rfl (Nat.le_of_ble_eq_true rfl) (Nat.le_of_ble_eq_true rfl) ?_
      refine c_whx hn (by omega) h44' h42' (k_i ?_)
      rw [hv]
      refine r_iconst 93 rfl (-1) dX10_sniff_92 rfl ?_
      refine r_icmp_ne 96 100 rfl dX10_sniff_93 rfl (fun q__ => absurd (by decide) q__) (fun _ => ?_)
      refine r_iconst 97 rfl 3 dX10_sniff_96 rfl ?_
      refine r_goto 105 dX10_sniff_97 rfl ?_
      refine r_iadd 106 rfl dX10_sniff_105 ?_
      rw [show (nI (4 * c)) + 3 = nI ((4 * c) + 3) from nI_add (4 * c) 3]
      refine r_dup2 107 rfl dX10_sniff_106 rfl rfl ?_
      refine r_iald (f := m' 49) 108 rfl (4 * c + 3) dX10_sniff_107 rfl rfl (by omega) (by decide) ?_
      rw [show (m' 49) (4 * c + 3) = nI (tq P (gD D) k c (4 * c + 3)) from hti]
      refine r_iconst 109 rfl 1 dX10_sniff_108 rfl ?_
      refine r_iadd 110 rfl dX10_sniff_109 ?_
      rw [show (nI (tq P (gD D) k c (4 * c + 3))) + 1 = nI ((tq P (gD D) k c (4 * c + 3)) + 1) from nI_add (tq P (gD D) k c (4 * c + 3)) 1]
      refine w_iast 111 rfl ((4 * c) + 3) (va_up m' 49 (upd (m' 49) ((4 * c) + 3) (nI ((tq P (gD D) k c (4 * c + 3)) + 1)))) dX10_sniff_110 (by decide) (by decide) (fun _ => rfl) rfl (by omega) (by decide) rfl ?_
      refine r_iinc 114 rfl (nI (c + 1)) [some (.ref 37), some (.int (nI x)), some (.int (nI k)), some (.int (nI (c + 1))), none, none, none] dX10_sniff_111 rfl (nI_1 _) (by decide) rfl ?_
      refine r_goto 74 dX10_sniff_114 rfl ?_
      refine ih (c + 1) (by omega) _ (fun j hj => ?_) (ag_up hag (by decide))
      rw [va_up_self, tq_s hf (by omega)]
      unfold upd
      by_cases h : j = 4 * c + 3
      · rw [if_pos h, if_pos (by omega), h]
      · rw [if_neg h, if_neg (by omega)]; exact ht j hj
    · have hf : gD D k c = p := by unfold gD; rw [hf, if_neg (by omega)]; rfl
      have hti := ht (4 * c + p) (by omega)
      have hle := tq_le P (gD D) k c (4 * c + p)
      refine r_iload_n 75 rfl 3 dX10_sniff_74 rfl rfl ?_
      refine r_bipush 77 rfl 8 dX10_sniff_75 (by decide) ?_
      refine r_icmp_ge 80 117 rfl dX10_sniff_77 rfl (fun q__ => absurd q__ (fun q__ => absurd ((nI_leI (a := 8) (b := c) (by omega) (by omega)).mp q__) (by omega))) (fun _ => ?_)
      refine r_aload_n 81 rfl 0 dX10_sniff_80 rfl rfl ?_
      refine r_getf (v := .ref 49) (k := 21) 84 rfl dX10_sniff_81 (gf_X10_43_10 rfl) rfl rfl ?_
      refine r_iconst 85 rfl 4 dX10_sniff_84 rfl ?_
      refine r_iload_n 86 rfl 3 dX10_sniff_85 rfl rfl ?_
      refine r_imul 87 rfl dX10_sniff_86 ?_
      rw [show 4 * (nI c) = nI (4 * c) from pk_mul 4 c]
      refine r_aload_n 88 rfl 0 dX10_sniff_87 rfl rfl ?_
      refine r_iload_n 89 rfl 3 dX10_sniff_88 rfl rfl ?_
      refine q_V 92 0 0 rfl [.int (nI c)] rfl dX10_sniff_89 cl_X10_sniff__X10_whose (lk_X10_152 rfl) im_X10_whose (ci := 10) rfl sl_X10__X10_whose rfl (Nat.le_of_ble_eq_true rfl) (fun _ _ => Nat.le_of_ble_eq_true rfl) rfl rfl (Nat.le_of_ble_eq_true rfl) (Nat.le_of_ble_eq_true rfl) ?_
      refine c_whx hn (by omega) h44' h42' (k_i ?_)
      rw [hv]
      refine r_iconst 93 rfl (-1) dX10_sniff_92 rfl ?_
      refine r_icmp_ne 96 100 rfl dX10_sniff_93 rfl (fun _ => ?_) (fun q__ => absurd q__ (nI_m1 (by omega)))
      refine r_aload_n 101 rfl 0 dX10_sniff_100 rfl rfl ?_
      refine r_iload_n 102 rfl 3 dX10_sniff_101 rfl rfl ?_
      refine q_V 105 0 0 rfl [.int (nI c)] rfl dX10_sniff_102 cl_X10_sniff__X10_whose (lk_X10_152 rfl) im_X10_whose (ci := 10) rfl sl_X10__X10_whose rfl (Nat.le_of_ble_eq_true rfl) (fun _ _ => Nat.le_of_ble_eq_true rfl) rfl rfl (Nat.le_of_ble_eq_true rfl) (Nat.le_of_ble_eq_true rfl) ?_
      refine c_whx hn (by omega) h44' h42' (k_i ?_)
      rw [hv]
      refine r_iadd 106 rfl dX10_sniff_105 ?_
      rw [show (nI (4 * c)) + (nI p) = nI ((4 * c) + p) from nI_add (4 * c) p]
      refine r_dup2 107 rfl dX10_sniff_106 rfl rfl ?_
      refine r_iald (f := m' 49) 108 rfl (4 * c + p) dX10_sniff_107 rfl rfl (by omega) (by decide) ?_
      rw [show (m' 49) (4 * c + p) = nI (tq P (gD D) k c (4 * c + p)) from hti]
      refine r_iconst 109 rfl 1 dX10_sniff_108 rfl ?_
      refine r_iadd 110 rfl dX10_sniff_109 ?_
      rw [show (nI (tq P (gD D) k c (4 * c + p))) + 1 = nI ((tq P (gD D) k c (4 * c + p)) + 1) from nI_add (tq P (gD D) k c (4 * c + p)) 1]
      refine w_iast 111 rfl ((4 * c) + p) (va_up m' 49 (upd (m' 49) ((4 * c) + p) (nI ((tq P (gD D) k c (4 * c + p)) + 1)))) dX10_sniff_110 (by decide) (by decide) (fun _ => rfl) rfl (by omega) (by decide) rfl ?_
      refine r_iinc 114 rfl (nI (c + 1)) [some (.ref 37), some (.int (nI x)), some (.int (nI k)), some (.int (nI (c + 1))), none, none, none] dX10_sniff_111 rfl (nI_1 _) (by decide) rfl ?_
      refine r_goto 74 dX10_sniff_114 rfl ?_
      refine ih (c + 1) (by omega) _ (fun j hj => ?_) (ag_up hag (by decide))
      rw [va_up_self, tq_s hf (by omega)]
      unfold upd
      by_cases h : j = 4 * c + p
      · rw [if_pos h, if_pos (by omega), h]
      · rw [if_neg h, if_neg (by omega)]; exact ht j hj

set_option maxHeartbeats 4000000 in
set_option maxRecDepth 20000 in
theorem lp_tf2 {Q : am_P} {z : am_Z} {m : Nat → Nat → Int32} {n : Nat} {D : Nat → Nat → Nat} (hC : C9 z m D) (hA : AIR m D) (hf1 : 1 ≤ D 7 0) {nc : Nat → Nat} {np : Nat → Int32} {nn : Nat} (hnn : m 7 8 = nI nn) (hn8 : nn ≤ 8) (hnc : ∀ j, j < nn → m 12 j = nI (nc j) ∧ nc j < 8) (hnp : ∀ j, j < nn → m 13 j = np j) (kq : ∀ m', (∀ j, j < 32 → m' 36 j = nI (tl (fit D nc np nn) (fD D) j 216)) → ag [33, 36] m m' → Q (some (.int (nI (cn (fit D nc np nn) 216)))) (wd z m') n) : ∀ (d k : Nat), k + d = 216 → ∀ m', (∀ j, j < 32 → m' 36 j = nI (tl (fit D nc np nn) (fD D) j k)) → ag [33, 36] m m' → AW mX9_tallyFindings Q 28 [some (.ref 1), some (.int (nI (cn (fit D nc np nn) k))), some (.int (nI k)), none, none] [] (wd z m') n 0 0 := by
  intro d
  induction d with
  | zero =>
    intro k hk m' ht hag
    obtain rfl : k = 216 := by omega
    refine r_iload_n 29 rfl 2 dX9_tallyFindings_28 rfl rfl ?_
    refine r_sipush 32 rfl 216 dX9_tallyFindings_29 (by decide) ?_
    refine r_icmp_ge 35 94 rfl dX9_tallyFindings_32 rfl (fun _ => ?_) (fun q__ => absurd ((nI_leI (a := 216) (b := 216) (by omega) (by omega)).mpr (by omega)) q__)
    refine r_iload_n 95 rfl 1 dX9_tallyFindings_94 rfl rfl ?_
    refine r_ireturn rfl dX9_tallyFindings_95 (Nat.le_of_ble_eq_true rfl) (Nat.le_of_ble_eq_true rfl) ?_
    exact kq m' ht hag
  | succ d ih =>
    intro k hk m' ht hag
    have hcn := cn_le (fit D nc np nn) k
    have hC' := C9_ag hC hag (by decide)
    have hA' := AIR_ag hA hag (by decide)
    have e1 : cn (fit D nc np nn) (k + 1) = cn (fit D nc np nn) k + (if (fit D nc np nn) k = true then 1 else 0) := rfl
    by_cases hP : (fit D nc np nn) k = true
    · refine r_iload_n 29 rfl 2 dX9_tallyFindings_28 rfl rfl ?_
      refine r_sipush 32 rfl 216 dX9_tallyFindings_29 (by decide) ?_
      refine r_icmp_ge 35 94 rfl dX9_tallyFindings_32 rfl (fun q__ => absurd q__ (fun q__ => absurd ((nI_leI (a := 216) (b := k) (by omega) (by omega)).mp q__) (by omega))) (fun _ => ?_)
      refine r_aload_n 36 rfl 0 dX9_tallyFindings_35 rfl rfl ?_
      refine r_iload_n 37 rfl 2 dX9_tallyFindings_36 rfl rfl ?_
      refine q_V 40 0 0 rfl [.int (nI k)] rfl dX9_tallyFindings_37 cl_X9_tallyFindings__X9_fitsNoses (lk_X9_232 rfl) im_X9_fitsNoses (ci := 9) rfl sl_X9__X9_fitsNoses rfl (Nat.le_of_ble_eq_true rfl) (fun _ _ => Nat.le_of_ble_eq_true rfl) rfl rfl (Nat.le_of_ble_eq_true rfl) (Nat.le_of_ble_eq_true rfl) ?_
      refine c_fits hC' hA' hf1 (by rw [hag 7 (by decide)]; exact hnn) hn8 (fun j hj => by rw [hag 12 (by decide)]; exact hnc j hj) (fun j hj => by rw [hag 13 (by decide)]; exact hnp j hj) (k := k) (by omega) (fun _ m2 h33 hag2 => (k_i ?_)) (fun h => absurd hP h)
      refine r_if_eq 43 88 rfl dX9_tallyFindings_40 rfl (fun q__ => absurd q__ (by decide)) (fun _ => ?_)
      refine r_iinc 46 rfl (nI ((cn (fit D nc np nn) k) + 1)) [some (.ref 1), some (.int (nI ((cn (fit D nc np nn) k) + 1))), some (.int (nI k)), none, none] dX9_tallyFindings_43 rfl (nI_1 _) (by decide) rfl ?_
      refine r_iconst 47 rfl 0 dX9_tallyFindings_46 rfl ?_
      refine r_istore_n 48 rfl 3 [some (.ref 1), some (.int (nI ((cn (fit D nc np nn) k) + 1))), some (.int (nI k)), some (.int 0), none] dX9_tallyFindings_47 rfl (by decide) rfl ?_
      rw [if_pos hP] at e1
      rw [show cn (fit D nc np nn) k + 1 = cn (fit D nc np nn) (k + 1) from e1.symm]
      refine lp_tf1 (P := (fit D nc np nn)) (C9_ag hC' hag2 (by decide)) (AIR_ag hA' hag2 (by decide)) (by omega) hP h33 (fun m3 ht3 hag3 => ?_) 8 0 rfl m2 (fun j hj => by rw [hag2 36 (by decide), tq_0]; exact ht j hj) (ag_r _ _)
      refine r_iinc 91 rfl (nI (k + 1)) [some (.ref 1), some (.int (nI (cn (fit D nc np nn) (k + 1)))), some (.int (nI (k + 1))), none, none] dX9_tallyFindings_88 rfl (nI_1 _) (by decide) rfl ?_
      refine r_goto 28 dX9_tallyFindings_91 rfl ?_
      exact ih (k + 1) (by omega) m3 ht3 (ag_t (ag_t hag hag2 (by decide)) hag3 (by decide))
    · refine r_iload_n 29 rfl 2 dX9_tallyFindings_28 rfl rfl ?_
      refine r_sipush 32 rfl 216 dX9_tallyFindings_29 (by decide) ?_
      refine r_icmp_ge 35 94 rfl dX9_tallyFindings_32 rfl (fun q__ => absurd q__ (fun q__ => absurd ((nI_leI (a := 216) (b := k) (by omega) (by omega)).mp q__) (by omega))) (fun _ => ?_)
      refine r_aload_n 36 rfl 0 dX9_tallyFindings_35 rfl rfl ?_
      refine r_iload_n 37 rfl 2 dX9_tallyFindings_36 rfl rfl ?_
      refine q_V 40 0 0 rfl [.int (nI k)] rfl dX9_tallyFindings_37 cl_X9_tallyFindings__X9_fitsNoses (lk_X9_232 rfl) im_X9_fitsNoses (ci := 9) rfl sl_X9__X9_fitsNoses rfl (Nat.le_of_ble_eq_true rfl) (fun _ _ => Nat.le_of_ble_eq_true rfl) rfl rfl (Nat.le_of_ble_eq_true rfl) (Nat.le_of_ble_eq_true rfl) ?_
      refine c_fits hC' hA' hf1 (by rw [hag 7 (by decide)]; exact hnn) hn8 (fun j hj => by rw [hag 12 (by decide)]; exact hnc j hj) (fun j hj => by rw [hag 13 (by decide)]; exact hnp j hj) (k := k) (by omega) (fun h => absurd h hP) (fun _ m2 hag2 => (k_i ?_))
      refine r_if_eq 43 88 rfl dX9_tallyFindings_40 rfl (fun _ => ?_) (fun q__ => absurd (by decide) q__)
      refine r_iinc 91 rfl (nI (k + 1)) [some (.ref 1), some (.int (nI (cn (fit D nc np nn) k))), some (.int (nI (k + 1))), none, none] dX9_tallyFindings_88 rfl (nI_1 _) (by decide) rfl ?_
      refine r_goto 28 dX9_tallyFindings_91 rfl ?_
      rw [if_neg hP] at e1
      rw [show cn (fit D nc np nn) k = cn (fit D nc np nn) (k + 1) from e1.symm]
      exact ih (k + 1) (by omega) m2 (fun j hj => by rw [hag2 36 (by decide), tq_f hP]; exact ht j hj) (ag_t hag hag2 (by decide))

set_option maxHeartbeats 4000000 in
set_option maxRecDepth 20000 in
theorem c_tally {Q : am_P} {z : am_Z} {m : Nat → Nat → Int32} {n : Nat} {D : Nat → Nat → Nat} (hC : C9 z m D) (hA : AIR m D) (hf1 : 1 ≤ D 7 0) {nc : Nat → Nat} {np : Nat → Int32} {nn : Nat} (hnn : m 7 8 = nI nn) (hn8 : nn ≤ 8) (hnc : ∀ j, j < nn → m 12 j = nI (nc j) ∧ nc j < 8) (hnp : ∀ j, j < nn → m 13 j = np j) (kq : ∀ m', (∀ j, j < 32 → m' 36 j = nI (tl (fit D nc np nn) (fD D) j 216)) → ag [33, 36] m m' → Q (some (.int (nI (cn (fit D nc np nn) 216)))) (wd z m') n) : AW mX9_tallyFindings Q 0 (am_ent (am_l mX9_tallyFindings) [.ref 1]) [] (wd z m) n 0 0 := by
  show AW _ _ 0 [some (.ref 1), none, none, none, none] [] _ _ 0 0
  refine r_iconst 1 rfl 0 dX9_tallyFindings_0 rfl ?_
  refine r_istore_n 2 rfl 1 [some (.ref 1), some (.int 0), none, none, none] dX9_tallyFindings_1 rfl (by decide) rfl ?_
  refine lp_tf0 (fun m1 h0 hag => ?_) 32 0 rfl m (fun j hj => absurd hj (Nat.not_lt_zero j)) (ag_r _ _)
  refine r_iconst 25 rfl 0 dX9_tallyFindings_24 rfl ?_
  refine r_istore_n 26 rfl 1 [some (.ref 1), some (.int 0), none, none, none] dX9_tallyFindings_25 rfl (by decide) rfl ?_
  refine r_iconst 27 rfl 0 dX9_tallyFindings_26 rfl ?_
  refine r_istore_n 28 rfl 2 [some (.ref 1), some (.int 0), some (.int 0), none, none] dX9_tallyFindings_27 rfl (by decide) rfl ?_
  exact lp_tf2 (C9_ag hC hag (by decide)) (AIR_ag hA hag (by decide)) hf1 (by rw [hag 7 (by decide)]; exact hnn) hn8 (fun j hj => by rw [hag 12 (by decide)]; exact hnc j hj) (fun j hj => by rw [hag 13 (by decide)]; exact hnp j hj) (fun m2 h2 hag2 => kq m2 h2 (ag_t (ag_w hag (by decide)) hag2 (by decide))) 216 0 rfl m1 (fun j hj => h0 j hj) (ag_r _ _)

set_option maxHeartbeats 4000000 in
set_option maxRecDepth 20000 in
theorem lp_cf1 {Q : am_P} {z : am_Z} {m : Nat → Nat → Int32} {n : Nat} {F : Nat → Nat} (hF : ∀ j, F j ≤ 216) (h36 : ∀ j, j < 32 → m 36 j = nI (F j)) {b : Int32} {l c : Nat} (hc : c < 8) (kx : AW mX9_cellOfFewestLeft Q 50 [some (.ref 1), some (.int b), some (.int (nI l)), some (.int (nI c)), some (.int (nI (mx (fun q => F (c * 4 + q)) 4))), none] [] (wd z m) n 0 0) : ∀ (d q : Nat), q + d = 4 → AW mX9_cellOfFewestLeft Q 20 [some (.ref 1), some (.int b), some (.int (nI l)), some (.int (nI c)), some (.int (nI (mx (fun q => F (c * 4 + q)) q))), some (.int (nI q))] [] (wd z m) n 0 0 := by
  intro d
  induction d with
  | zero =>
    intro q hq
    obtain rfl : q = 4 := by omega
    refine r_iload 22 rfl dX9_cellOfFewestLeft_20 rfl ?_
    refine r_iconst 23 rfl 4 dX9_cellOfFewestLeft_22 rfl ?_
    refine r_icmp_ge 26 50 rfl dX9_cellOfFewestLeft_23 rfl (fun _ => ?_) (fun q__ => absurd ((nI_leI (a := 4) (b := 4) (by omega) (by omega)).mpr (by omega)) q__)
    refine AW.drop 5 [some (.ref 1), some (.int b), some (.int (nI l)), some (.int (nI c)), some (.int (nI (mx (fun q => F (c * 4 + q)) 4))), none] rfl ?_
    exact kx
  | succ d ih =>
    intro q hq
    have e := h36 (c * 4 + q) (by omega)
    have hF1 := hF (c * 4 + q)
    have hm1 := mx_le (a := (fun q => F (c * 4 + q))) (B := 216) (fun q => hF _) q
    refine r_iload 22 rfl dX9_cellOfFewestLeft_20 rfl ?_
    refine r_iconst 23 rfl 4 dX9_cellOfFewestLeft_22 rfl ?_
    refine r_icmp_ge 26 50 rfl dX9_cellOfFewestLeft_23 rfl (fun q__ => absurd q__ (fun q__ => absurd ((nI_leI (a := 4) (b := q) (by omega) (by omega)).mp q__) (by omega))) (fun _ => ?_)
    refine r_iload 28 rfl dX9_cellOfFewestLeft_26 rfl ?_
    refine r_aload_n 29 rfl 0 dX9_cellOfFewestLeft_28 rfl rfl ?_
    refine r_getf (v := .ref 36) (k := 10) 32 rfl dX9_cellOfFewestLeft_29 (gf_X9_59_9 rfl) rfl rfl ?_
    refine r_iload_n 33 rfl 3 dX9_cellOfFewestLeft_32 rfl rfl ?_
    refine r_iconst 34 rfl 4 dX9_cellOfFewestLeft_33 rfl ?_
    refine r_imul 35 rfl dX9_cellOfFewestLeft_34 ?_
    rw [show (nI c) * 4 = nI (c * 4) from pk_mul c 4]
    refine r_iload 37 rfl dX9_cellOfFewestLeft_35 rfl ?_
    refine r_iadd 38 rfl dX9_cellOfFewestLeft_37 ?_
    rw [show (nI (c * 4)) + (nI q) = nI ((c * 4) + q) from nI_add (c * 4) q]
    refine r_iald (f := m 36) 39 rfl ((c * 4) + q) dX9_cellOfFewestLeft_38 rfl rfl (by omega) (by decide) ?_
    rw [show (m 36) ((c * 4) + q) = nI (F (c * 4 + q)) from e]
    refine r_max 42 rfl dX9_cellOfFewestLeft_39 (lk_X9_340 rfl) (by decide) (Nat.le_of_ble_eq_true rfl) (Nat.le_of_ble_eq_true rfl) (Nat.le_of_ble_eq_true rfl) ?_
    rw [show (if nI (mx (fun q => F (c * 4 + q)) q) < nI (F (c * 4 + q)) then nI (F (c * 4 + q)) else nI (mx (fun q => F (c * 4 + q)) q)) = nI (if mx (fun q => F (c * 4 + q)) q < F (c * 4 + q) then F (c * 4 + q) else mx (fun q => F (c * 4 + q)) q) from am_max (by omega) (by omega)]
    refine r_istore 44 rfl [some (.ref 1), some (.int b), some (.int (nI l)), some (.int (nI c)), some (.int (nI (if mx (fun q => F (c * 4 + q)) q < F (c * 4 + q) then F (c * 4 + q) else mx (fun q => F (c * 4 + q)) q))), some (.int (nI q))] dX9_cellOfFewestLeft_42 (by decide) rfl ?_
    refine r_iinc 47 rfl (nI (q + 1)) [some (.ref 1), some (.int b), some (.int (nI l)), some (.int (nI c)), some (.int (nI (if mx (fun q => F (c * 4 + q)) q < F (c * 4 + q) then F (c * 4 + q) else mx (fun q => F (c * 4 + q)) q))), some (.int (nI (q + 1)))] dX9_cellOfFewestLeft_44 rfl (nI_1 _) (by decide) rfl ?_
    refine r_goto 20 dX9_cellOfFewestLeft_47 rfl ?_
    exact ih (q + 1) (by omega)

set_option maxHeartbeats 4000000 in
set_option maxRecDepth 20000 in
theorem lp_cf2 {Q : am_P} {z : am_Z} {m : Nat → Nat → Int32} {n : Nat} {F : Nat → Nat} (hF : ∀ j, F j ≤ 216) (h36 : ∀ j, j < 32 → m 36 j = nI (F j)) (k : Q (some (.int (bb (fun c => mx (fun q => F (c * 4 + q)) 4) 217 8))) (wd z m) n) : ∀ (d c : Nat), c + d = 8 → AW mX9_cellOfFewestLeft Q 8 [some (.ref 1), some (.int (bb (fun c => mx (fun q => F (c * 4 + q)) 4) 217 c)), some (.int (nI (bf (fun c => mx (fun q => F (c * 4 + q)) 4) 217 c))), some (.int (nI c)), none, none] [] (wd z m) n 0 0 := by
  intro d
  induction d with
  | zero =>
    intro c hc
    obtain rfl : c = 8 := by omega
    refine r_iload_n 9 rfl 3 dX9_cellOfFewestLeft_8 rfl rfl ?_
    refine r_bipush 11 rfl 8 dX9_cellOfFewestLeft_9 (by decide) ?_
    refine r_icmp_ge 14 67 rfl dX9_cellOfFewestLeft_11 rfl (fun _ => ?_) (fun q__ => absurd ((nI_leI (a := 8) (b := 8) (by omega) (by omega)).mpr (by omega)) q__)
    refine r_iload_n 68 rfl 1 dX9_cellOfFewestLeft_67 rfl rfl ?_
    refine r_ireturn rfl dX9_cellOfFewestLeft_68 (Nat.le_of_ble_eq_true rfl) (Nat.le_of_ble_eq_true rfl) ?_
    exact k
  | succ d ih =>
    intro c hc
    have hb1 := bf_le (fun c => mx (fun q => F (c * 4 + q)) 4) 217 c
    have hm1 := mx_le (a := (fun q => F (c * 4 + q))) (B := 216) (fun q => hF _) 4
    refine r_iload_n 9 rfl 3 dX9_cellOfFewestLeft_8 rfl rfl ?_
    refine r_bipush 11 rfl 8 dX9_cellOfFewestLeft_9 (by decide) ?_
    refine r_icmp_ge 14 67 rfl dX9_cellOfFewestLeft_11 rfl (fun q__ => absurd q__ (fun q__ => absurd ((nI_leI (a := 8) (b := c) (by omega) (by omega)).mp q__) (by omega))) (fun _ => ?_)
    refine r_iconst 15 rfl 0 dX9_cellOfFewestLeft_14 rfl ?_
    refine r_istore 17 rfl [some (.ref 1), some (.int (bb (fun c => mx (fun q => F (c * 4 + q)) 4) 217 c)), some (.int (nI (bf (fun c => mx (fun q => F (c * 4 + q)) 4) 217 c))), some (.int (nI c)), some (.int 0), none] dX9_cellOfFewestLeft_15 (by decide) rfl ?_
    refine r_iconst 18 rfl 0 dX9_cellOfFewestLeft_17 rfl ?_
    refine r_istore 20 rfl [some (.ref 1), some (.int (bb (fun c => mx (fun q => F (c * 4 + q)) 4) 217 c)), some (.int (nI (bf (fun c => mx (fun q => F (c * 4 + q)) 4) 217 c))), some (.int (nI c)), some (.int 0), some (.int 0)] dX9_cellOfFewestLeft_18 (by decide) rfl ?_
    refine lp_cf1 hF h36 (by omega) ?_ 4 0 rfl
    refine r_iload 52 rfl dX9_cellOfFewestLeft_50 rfl ?_
    refine r_iload_n 53 rfl 2 dX9_cellOfFewestLeft_52 rfl rfl ?_
    refine r_icmp_ge 56 61 rfl dX9_cellOfFewestLeft_53 rfl (fun c53 => ?_) (fun c53 => ?_)
    · replace c53 : bf (fun c => mx (fun q => F (c * 4 + q)) 4) 217 c ≤ mx (fun q => F (c * 4 + q)) 4 := (nI_leI (a := (bf (fun c => mx (fun q => F (c * 4 + q)) 4) 217 c)) (b := (mx (fun q => F (c * 4 + q)) 4)) (by omega) (by omega)).mp c53
      replace c53 : ¬ mx (fun q => F (c * 4 + q)) 4 < bf (fun c => mx (fun q => F (c * 4 + q)) 4) 217 c := by omega
      refine r_iinc 64 rfl (nI (c + 1)) [some (.ref 1), some (.int (bb (fun c => mx (fun q => F (c * 4 + q)) 4) 217 c)), some (.int (nI (bf (fun c => mx (fun q => F (c * 4 + q)) 4) 217 c))), some (.int (nI (c + 1))), some (.int (nI (mx (fun q => F (c * 4 + q)) 4))), none] dX9_cellOfFewestLeft_61 rfl (nI_1 _) (by decide) rfl ?_
      refine r_goto 8 dX9_cellOfFewestLeft_64 rfl ?_
      refine AW.drop 4 [some (.ref 1), some (.int (bb (fun c => mx (fun q => F (c * 4 + q)) 4) 217 c)), some (.int (nI (bf (fun c => mx (fun q => F (c * 4 + q)) 4) 217 c))), some (.int (nI (c + 1))), none, none] rfl ?_
      have e1 : bf (fun c => mx (fun q => F (c * 4 + q)) 4) 217 (c + 1) = bf (fun c => mx (fun q => F (c * 4 + q)) 4) 217 c := if_neg c53
      have e2 : bb (fun c => mx (fun q => F (c * 4 + q)) 4) 217 (c + 1) = bb (fun c => mx (fun q => F (c * 4 + q)) 4) 217 c := if_neg c53
      have hx := ih (c + 1) (by omega)
      rw [e1, e2] at hx
      exact hx
    · replace c53 : ¬ (bf (fun c => mx (fun q => F (c * 4 + q)) 4) 217 c) ≤ (mx (fun q => F (c * 4 + q)) 4) := fun q__ => c53 ((nI_leI (a := (bf (fun c => mx (fun q => F (c * 4 + q)) 4) 217 c)) (b := (mx (fun q => F (c * 4 + q)) 4)) (by omega) (by omega)).mpr q__)
      replace c53 : mx (fun q => F (c * 4 + q)) 4 < bf (fun c => mx (fun q => F (c * 4 + q)) 4) 217 c := by omega
      refine r_iload 58 rfl dX9_cellOfFewestLeft_56 rfl ?_
      refine r_istore_n 59 rfl 2 [some (.ref 1), some (.int (bb (fun c => mx (fun q => F (c * 4 + q)) 4) 217 c)), some (.int (nI (mx (fun q => F (c * 4 + q)) 4))), some (.int (nI c)), some (.int (nI (mx (fun q => F (c * 4 + q)) 4))), none] dX9_cellOfFewestLeft_58 rfl (by decide) rfl ?_
      refine r_iload_n 60 rfl 3 dX9_cellOfFewestLeft_59 rfl rfl ?_
      refine r_istore_n 61 rfl 1 [some (.ref 1), some (.int (nI c)), some (.int (nI (mx (fun q => F (c * 4 + q)) 4))), some (.int (nI c)), some (.int (nI (mx (fun q => F (c * 4 + q)) 4))), none] dX9_cellOfFewestLeft_60 rfl (by decide) rfl ?_
      refine r_iinc 64 rfl (nI (c + 1)) [some (.ref 1), some (.int (nI c)), some (.int (nI (mx (fun q => F (c * 4 + q)) 4))), some (.int (nI (c + 1))), some (.int (nI (mx (fun q => F (c * 4 + q)) 4))), none] dX9_cellOfFewestLeft_61 rfl (nI_1 _) (by decide) rfl ?_
      refine r_goto 8 dX9_cellOfFewestLeft_64 rfl ?_
      refine AW.drop 4 [some (.ref 1), some (.int (nI c)), some (.int (nI (mx (fun q => F (c * 4 + q)) 4))), some (.int (nI (c + 1))), none, none] rfl ?_
      have e1 : bf (fun c => mx (fun q => F (c * 4 + q)) 4) 217 (c + 1) = mx (fun q => F (c * 4 + q)) 4 := if_pos c53
      have e2 : bb (fun c => mx (fun q => F (c * 4 + q)) 4) 217 (c + 1) = nI c := if_pos c53
      have hx := ih (c + 1) (by omega)
      rw [e1, e2] at hx
      exact hx

set_option maxHeartbeats 4000000 in
set_option maxRecDepth 20000 in
theorem c_fewest {Q : am_P} {z : am_Z} {m : Nat → Nat → Int32} {n : Nat} {F : Nat → Nat} (hF : ∀ j, F j ≤ 216) (h36 : ∀ j, j < 32 → m 36 j = nI (F j)) (k : Q (some (.int (bb (fun c => mx (fun q => F (c * 4 + q)) 4) 217 8))) (wd z m) n) : AW mX9_cellOfFewestLeft Q 0 (am_ent (am_l mX9_cellOfFewestLeft) [.ref 1]) [] (wd z m) n 0 0 := by
  show AW _ _ 0 [some (.ref 1), none, none, none, none, none] [] _ _ 0 0
  refine r_iconst 1 rfl (-1) dX9_cellOfFewestLeft_0 rfl ?_
  refine r_istore_n 2 rfl 1 [some (.ref 1), some (.int (-1)), none, none, none, none] dX9_cellOfFewestLeft_1 rfl (by decide) rfl ?_
  refine r_sipush 5 rfl 217 dX9_cellOfFewestLeft_2 (by decide) ?_
  refine r_istore_n 6 rfl 2 [some (.ref 1), some (.int (-1)), some (.int 217), none, none, none] dX9_cellOfFewestLeft_5 rfl (by decide) rfl ?_
  refine r_iconst 7 rfl 0 dX9_cellOfFewestLeft_6 rfl ?_
  refine r_istore_n 8 rfl 3 [some (.ref 1), some (.int (-1)), some (.int 217), some (.int 0), none, none] dX9_cellOfFewestLeft_7 rfl (by decide) rfl ?_
  exact lp_cf2 hF h36 k 8 0 rfl
