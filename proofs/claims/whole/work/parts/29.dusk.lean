def dk_r (h s : Int32) : Nat → Int32
  | 0 => s
  | p + 1 => dk_r h s p + h
theorem dk_3 (h s : Int32) : s + 3 * h = dk_r h s 3 := by
  show s + 3 * h = s + h + h + h
  have e : (3 : Int32) * h = h + h + h := by
    rw [show (3 : Int32) = 1 + 1 + 1 from rfl, Int32.add_mul, Int32.add_mul, Int32.one_mul]
  rw [e, ← Int32.add_assoc, ← Int32.add_assoc]
theorem dk_t_n {who ppl tax : Nat → Int32} {c p : Nat} (h : who c = -1) (hp : p < 3) : dk_t who ppl tax (c + 1) p = dk_t who ppl tax c p := by
  show (if who c = nI p then dk_t who ppl tax c p + ppl c else dk_t who ppl tax c p) = _
  rw [if_neg (fun q => nI_m1 (t := p) (by omega) (q.symm.trans h))]
theorem dk_t_s {who ppl tax : Nat → Int32} {c a p : Nat} (h : who c = nI a) (ha : a < 3) (hp : p < 3) : dk_t who ppl tax (c + 1) p = if p = a then dk_t who ppl tax c p + ppl c else dk_t who ppl tax c p := by
  show (if who c = nI p then dk_t who ppl tax c p + ppl c else dk_t who ppl tax c p) = _
  by_cases hpa : p = a
  · rw [if_pos (by rw [h, hpa]), if_pos hpa]
  · rw [if_neg (fun q => hpa ((nI_eq (a := p) (b := a) (by omega) (by omega)).mp (q.symm.trans h))), if_neg hpa]

set_option maxHeartbeats 4000000 in
set_option maxRecDepth 20000 in
theorem lp_dusk9 {Q : am_P} {z : am_Z} {m : Nat → Nat → Int32} {n : Nat} {who ppl tax : Nat → Int32} (hw : ∀ j, j < 8 → m 31 j = who j) (hwc : ∀ j, j < 8 → who j = -1 ∨ ∃ a, a < 3 ∧ who j = nI a) (hp : ∀ j, j < 8 → m 10 j = ppl j) (kx : ∀ m', (∀ p, p < 3 → m' 11 p = dk_t who ppl tax 8 p) → ag [11] m m' → AW mX9_dusk Q 101 [some (.ref 1), some (.int (dk_s who ppl 8)), some (.int (dk_n who ppl 8)), none, none] [] (wd z m') n 0 0) : ∀ (d c : Nat), c + d = 8 → ∀ m', (∀ p, p < 3 → m' 11 p = dk_t who ppl tax c p) → ag [11] m m' → AW mX9_dusk Q 23 [some (.ref 1), some (.int (dk_s who ppl c)), some (.int (dk_n who ppl c)), some (.int (nI c)), none] [] (wd z m') n 0 0 := by
  intro d
  induction d with
  | zero =>
    intro c hc m' ht hag
    obtain rfl : c = 8 := by omega
    refine r_iload_n 24 rfl 3 dX9_dusk_23 rfl rfl ?_
    refine r_bipush 26 rfl 8 dX9_dusk_24 (by decide) ?_
    refine r_icmp_ge 29 101 rfl dX9_dusk_26 rfl (fun _ => ?_) (fun q__ => absurd ((nI_leI (a := 8) (b := 8) (by omega) (by omega)).mpr (by omega)) q__)
    refine AW.drop 3 [some (.ref 1), some (.int (dk_s who ppl 8)), some (.int (dk_n who ppl 8)), none, none] rfl ?_
    exact kx m' ht hag
  | succ d ih =>
    intro c hc m' ht hag
    have hp' : m' 10 c = ppl c := by rw [hag 10 (by decide)]; exact hp c (by omega)
    have hw' : m' 31 c = who c := by rw [hag 31 (by decide)]; exact hw c (by omega)
    refine r_iload_n 24 rfl 3 dX9_dusk_23 rfl rfl ?_
    refine r_bipush 26 rfl 8 dX9_dusk_24 (by decide) ?_
    refine r_icmp_ge 29 101 rfl dX9_dusk_26 rfl (fun q__ => absurd q__ (fun q__ => absurd ((nI_leI (a := 8) (b := c) (by omega) (by omega)).mp q__) (by omega))) (fun _ => ?_)
    refine r_aload_n 30 rfl 0 dX9_dusk_29 rfl rfl ?_
    refine r_getf (v := .ref 28) (k := 6) 33 rfl dX9_dusk_30 (gf_X9_45_9 rfl) rfl rfl ?_
    refine r_getf (v := .ref 31) (k := 2) 36 rfl dX9_dusk_33 (gf_X9_183_0 rfl) rfl rfl ?_
    refine r_iload_n 37 rfl 3 dX9_dusk_36 rfl rfl ?_
    refine r_iald (f := m' 31) 38 rfl c dX9_dusk_37 rfl rfl (by omega) (by decide) ?_
    rw [show (m' 31) c = who c from hw']
    refine r_istore 40 rfl [some (.ref 1), some (.int (dk_s who ppl c)), some (.int (dk_n who ppl c)), some (.int (nI c)), some (.int (who c))] dX9_dusk_38 (by decide) rfl ?_
    refine r_iload 42 rfl dX9_dusk_40 rfl ?_
    refine r_iconst 43 rfl (-1) dX9_dusk_42 rfl ?_
    refine r_icmp_ne 46 61 rfl dX9_dusk_43 rfl (fun cw => ?_) (fun cw => ?_)
    · obtain ⟨a, ha, hwa⟩ := (hwc c (by omega)).resolve_left cw
      have hta : m' 11 a = dk_t who ppl tax c a := ht a ha
      refine r_aload_n 62 rfl 0 dX9_dusk_61 rfl rfl ?_
      refine r_getf (v := .ref 7) (k := 3) 65 rfl dX9_dusk_62 (gf_X9_32_9 rfl) rfl rfl ?_
      refine r_getf (v := .ref 11) (k := 7) 68 rfl dX9_dusk_65 (gf_X9_186_5 rfl) rfl rfl ?_
      refine r_iload 70 rfl dX9_dusk_68 rfl ?_
      rw [hwa]
      refine r_dup2 71 rfl dX9_dusk_70 rfl rfl ?_
      refine r_iald (f := m' 11) 72 rfl a dX9_dusk_71 rfl rfl ha (by decide) ?_
      rw [show (m' 11) a = dk_t who ppl tax c a from hta]
      refine r_aload_n 73 rfl 0 dX9_dusk_72 rfl rfl ?_
      refine r_getf (v := .ref 7) (k := 3) 76 rfl dX9_dusk_73 (gf_X9_32_9 rfl) rfl rfl ?_
      refine r_getf (v := .ref 10) (k := 6) 79 rfl dX9_dusk_76 (gf_X9_180_5 rfl) rfl rfl ?_
      refine r_iload_n 80 rfl 3 dX9_dusk_79 rfl rfl ?_
      refine r_iald (f := m' 10) 81 rfl c dX9_dusk_80 rfl rfl (by omega) (by decide) ?_
      rw [show (m' 10) c = ppl c from hp']
      refine r_iadd 82 rfl dX9_dusk_81 ?_
      refine w_iast 83 rfl a (va_up m' 11 (upd (m' 11) a ((dk_t who ppl tax c a) + (ppl c)))) dX9_dusk_82 (by decide) (by decide) (fun _ => rfl) rfl (by omega) (by decide) rfl ?_
      refine r_iload_n 84 rfl 1 dX9_dusk_83 rfl rfl ?_
      refine r_aload_n 85 rfl 0 dX9_dusk_84 rfl rfl ?_
      refine r_getf (v := .ref 7) (k := 3) 88 rfl dX9_dusk_85 (gf_X9_32_9 rfl) rfl rfl ?_
      refine r_getf (v := .ref 10) (k := 6) 91 rfl dX9_dusk_88 (gf_X9_180_5 rfl) rfl rfl ?_
      refine r_iload_n 92 rfl 3 dX9_dusk_91 rfl rfl ?_
      refine r_iald (f := m' 10) 93 rfl c dX9_dusk_92 rfl rfl (by omega) (by decide) ?_
      rw [show (m' 10) c = ppl c from hp']
      refine r_iadd 94 rfl dX9_dusk_93 ?_
      refine r_istore_n 95 rfl 1 [some (.ref 1), some (.int ((dk_s who ppl c) + (ppl c))), some (.int (dk_n who ppl c)), some (.int (nI c)), some (.int (nI a))] dX9_dusk_94 rfl (by decide) rfl ?_
      refine r_iinc 98 rfl (nI (c + 1)) [some (.ref 1), some (.int ((dk_s who ppl c) + (ppl c))), some (.int (dk_n who ppl c)), some (.int (nI (c + 1))), some (.int (nI a))] dX9_dusk_95 rfl (nI_1 _) (by decide) rfl ?_
      refine r_goto 23 dX9_dusk_98 rfl ?_
      refine AW.drop 4 [some (.ref 1), some (.int ((dk_s who ppl c) + (ppl c))), some (.int (dk_n who ppl c)), some (.int (nI (c + 1))), none] rfl ?_
      have es : dk_s who ppl (c + 1) = dk_s who ppl c + ppl c := if_neg cw
      have en : dk_n who ppl (c + 1) = dk_n who ppl c := if_neg cw
      rw [← es, ← en]
      refine ih (c + 1) (by omega) _ (fun p h3 => ?_) (ag_up hag (by decide))
      rw [va_up_self, dk_t_s hwa ha h3]
      unfold upd
      by_cases hpa : p = a
      · rw [if_pos hpa, if_pos hpa, hpa]
      · rw [if_neg hpa, if_neg hpa]; exact ht p h3
    · refine r_iload_n 47 rfl 2 dX9_dusk_46 rfl rfl ?_
      refine r_aload_n 48 rfl 0 dX9_dusk_47 rfl rfl ?_
      refine r_getf (v := .ref 7) (k := 3) 51 rfl dX9_dusk_48 (gf_X9_32_9 rfl) rfl rfl ?_
      refine r_getf (v := .ref 10) (k := 6) 54 rfl dX9_dusk_51 (gf_X9_180_5 rfl) rfl rfl ?_
      refine r_iload_n 55 rfl 3 dX9_dusk_54 rfl rfl ?_
      refine r_iald (f := m' 10) 56 rfl c dX9_dusk_55 rfl rfl (by omega) (by decide) ?_
      rw [show (m' 10) c = ppl c from hp']
      refine r_iadd 57 rfl dX9_dusk_56 ?_
      refine r_istore_n 58 rfl 2 [some (.ref 1), some (.int (dk_s who ppl c)), some (.int ((dk_n who ppl c) + (ppl c))), some (.int (nI c)), some (.int (who c))] dX9_dusk_57 rfl (by decide) rfl ?_
      refine r_goto 95 dX9_dusk_58 rfl ?_
      refine r_iinc 98 rfl (nI (c + 1)) [some (.ref 1), some (.int (dk_s who ppl c)), some (.int ((dk_n who ppl c) + (ppl c))), some (.int (nI (c + 1))), some (.int (who c))] dX9_dusk_95 rfl (nI_1 _) (by decide) rfl ?_
      refine r_goto 23 dX9_dusk_98 rfl ?_
      refine AW.drop 4 [some (.ref 1), some (.int (dk_s who ppl c)), some (.int ((dk_n who ppl c) + (ppl c))), some (.int (nI (c + 1))), none] rfl ?_
      have es : dk_s who ppl (c + 1) = dk_s who ppl c := if_pos cw
      have en : dk_n who ppl (c + 1) = dk_n who ppl c + ppl c := if_pos cw
      rw [← es, ← en]
      exact ih (c + 1) (by omega) m' (fun p h3 => (ht p h3).trans (dk_t_n cw h3).symm) hag
set_option maxHeartbeats 4000000 in
set_option maxRecDepth 20000 in
theorem lp_dusk9b {Q : am_P} {z : am_Z} {m : Nat → Nat → Int32} {n : Nat} {t : Nat → Int32} {a b : Int32} (ht : ∀ p, p < 3 → m 11 p = t p) (k : ∀ m', (∀ p, p < 3 → m' 11 p = t p + b / 2) → ag [11] m m' → Q (some (.int (a + 3 * (b / 2)))) (wd z m') n) : ∀ (d c : Nat), c + d = 3 → ∀ m', (∀ p, p < c → m' 11 p = t p + b / 2) → (∀ p, c ≤ p → p < 3 → m' 11 p = t p) → ag [11] m m' → AW mX9_dusk Q 103 [some (.ref 1), some (.int a), some (.int b), some (.int (nI c)), none] [] (wd z m') n 0 0 := by
  intro d
  induction d with
  | zero =>
    intro c hc m' h1 h2 hag
    obtain rfl : c = 3 := by omega
    refine r_iload_n 104 rfl 3 dX9_dusk_103 rfl rfl ?_
    refine r_iconst 105 rfl 3 dX9_dusk_104 rfl ?_
    refine r_icmp_ge 108 129 rfl dX9_dusk_105 rfl (fun _ => ?_) (fun q__ => absurd ((nI_leI (a := 3) (b := 3) (by omega) (by omega)).mpr (by omega)) q__)
    refine r_iload_n 130 rfl 1 dX9_dusk_129 rfl rfl ?_
    refine r_iconst 131 rfl 3 dX9_dusk_130 rfl ?_
    refine r_iload_n 132 rfl 2 dX9_dusk_131 rfl rfl ?_
    refine r_iconst 133 rfl 2 dX9_dusk_132 rfl ?_
    refine r_idiv 134 rfl dX9_dusk_133 (by decide) ?_
    refine r_imul 135 rfl dX9_dusk_134 ?_
    refine r_iadd 136 rfl dX9_dusk_135 ?_
    refine r_ireturn rfl dX9_dusk_136 (Nat.le_of_ble_eq_true rfl) (Nat.le_of_ble_eq_true rfl) ?_
    exact k m' (fun p hp => h1 p hp) hag
  | succ d ih =>
    intro c hc m' h1 h2 hag
    have hc2 : m' 11 c = t c := h2 c (Nat.le_refl c) (by omega)
    refine r_iload_n 104 rfl 3 dX9_dusk_103 rfl rfl ?_
    refine r_iconst 105 rfl 3 dX9_dusk_104 rfl ?_
    refine r_icmp_ge 108 129 rfl dX9_dusk_105 rfl (fun q__ => absurd q__ (fun q__ => absurd ((nI_leI (a := 3) (b := c) (by omega) (by omega)).mp q__) (by omega))) (fun _ => ?_)
    refine r_aload_n 109 rfl 0 dX9_dusk_108 rfl rfl ?_
    refine r_getf (v := .ref 7) (k := 3) 112 rfl dX9_dusk_109 (gf_X9_32_9 rfl) rfl rfl ?_
    refine r_getf (v := .ref 11) (k := 7) 115 rfl dX9_dusk_112 (gf_X9_186_5 rfl) rfl rfl ?_
    refine r_iload_n 116 rfl 3 dX9_dusk_115 rfl rfl ?_
    refine r_dup2 117 rfl dX9_dusk_116 rfl rfl ?_
    refine r_iald (f := m' 11) 118 rfl c dX9_dusk_117 rfl rfl (by omega) (by decide) ?_
    rw [show (m' 11) c = t c from hc2]
    refine r_iload_n 119 rfl 2 dX9_dusk_118 rfl rfl ?_
    refine r_iconst 120 rfl 2 dX9_dusk_119 rfl ?_
    refine r_idiv 121 rfl dX9_dusk_120 (by decide) ?_
    refine r_iadd 122 rfl dX9_dusk_121 ?_
    refine w_iast 123 rfl c (va_up m' 11 (upd (m' 11) c ((t c) + (b / 2)))) dX9_dusk_122 (by decide) (by decide) (fun _ => rfl) rfl (by omega) (by decide) rfl ?_
    refine r_iinc 126 rfl (nI (c + 1)) [some (.ref 1), some (.int a), some (.int b), some (.int (nI (c + 1))), none] dX9_dusk_123 rfl (nI_1 _) (by decide) rfl ?_
    refine r_goto 103 dX9_dusk_126 rfl ?_
    refine ih (c + 1) (by omega) _ (fun p hp => ?_) (fun p h3 h4 => ?_) (ag_up hag (by decide))
    · rw [va_up_self]; unfold upd
      by_cases hpc : p = c
      · rw [if_pos hpc, hpc]
      · rw [if_neg hpc]; exact h1 p (by omega)
    · rw [va_up_self]; unfold upd; rw [if_neg (by omega)]; exact h2 p (by omega) h4

set_option maxHeartbeats 4000000 in
set_option maxRecDepth 20000 in
theorem lp_dusk10 {Q : am_P} {z : am_Z} {m : Nat → Nat → Int32} {n : Nat} {D : Nat → Nat → Nat} (hC : C10 m D) (hM : MIR m D) {ppl tax : Nat → Int32} (hwc : ∀ j, j < 8 → WH D j = -1 ∨ ∃ a, a < 3 ∧ WH D j = nI a) (hp : ∀ j, j < 8 → m 40 j = ppl j) (kx : ∀ m', (∀ p, p < 3 → m' 41 p = dk_t (WH D) ppl tax 8 p) → ag [41] m m' → AW mX10_dusk Q 81 [some (.ref 37), some (.int (dk_n (WH D) ppl 8)), some (.int (dk_s (WH D) ppl 8)), none] [] (wd z m') n 0 0) : ∀ (d c : Nat), c + d = 8 → ∀ m', (∀ p, p < 3 → m' 41 p = dk_t (WH D) ppl tax c p) → ag [41] m m' → AW mX10_dusk Q 20 [some (.ref 37), some (.int (dk_n (WH D) ppl c)), some (.int (dk_s (WH D) ppl c)), some (.int (nI c))] [] (wd z m') n 0 0 := by
  intro d
  induction d with
  | zero =>
    intro c hc m' ht hag
    obtain rfl : c = 8 := by omega
    refine r_iload_n 21 rfl 3 dX10_dusk_20 rfl rfl ?_
    refine r_bipush 23 rfl 8 dX10_dusk_21 (by decide) ?_
    refine r_icmp_ge 26 81 rfl dX10_dusk_23 rfl (fun _ => ?_) (fun q__ => absurd ((nI_leI (a := 8) (b := 8) (by omega) (by omega)).mpr (by omega)) q__)
    refine AW.drop 3 [some (.ref 37), some (.int (dk_n (WH D) ppl 8)), some (.int (dk_s (WH D) ppl 8)), none] rfl ?_
    exact kx m' ht hag
  | succ d ih =>
    intro c hc m' ht hag
    have hp' : m' 40 c = ppl c := by rw [hag 40 (by decide)]; exact hp c (by omega)
    have hC' := C10_ag hC hag (by decide)
    have hM' := MIR_ag hM hag (by decide)
    refine r_iload_n 21 rfl 3 dX10_dusk_20 rfl rfl ?_
    refine r_bipush 23 rfl 8 dX10_dusk_21 (by decide) ?_
    refine r_icmp_ge 26 81 rfl dX10_dusk_23 rfl (fun q__ => absurd q__ (fun q__ => absurd ((nI_leI (a := 8) (b := c) (by omega) (by omega)).mp q__) (by omega))) (fun _ => ?_)
    refine r_aload_n 27 rfl 0 dX10_dusk_26 rfl rfl ?_
    refine r_iload_n 28 rfl 3 dX10_dusk_27 rfl rfl ?_
    refine q_V 31 0 0 rfl [.int (nI c)] rfl dX10_dusk_28 cl_X10_dusk__X10_whose (lk_X10_152 rfl) im_X10_whose (ci := 10) rfl sl_X10__X10_whose rfl (Nat.le_of_ble_eq_true rfl) (fun _ _ => Nat.le_of_ble_eq_true rfl) rfl rfl (Nat.le_of_ble_eq_true rfl) (Nat.le_of_ble_eq_true rfl) ?_
    refine c_who hC' hM' (by omega) (k_i ?_)
    refine r_iconst 32 rfl (-1) dX10_dusk_31 rfl ?_
    refine r_icmp_ne 35 47 rfl dX10_dusk_32 rfl (fun cw => ?_) (fun cw => ?_)
    · obtain ⟨a, ha, hwa⟩ := (hwc c (by omega)).resolve_left cw
      have hta : m' 41 a = dk_t (WH D) ppl tax c a := ht a ha
      refine r_aload_n 48 rfl 0 dX10_dusk_47 rfl rfl ?_
      refine r_getf (v := .ref 41) (k := 9) 51 rfl dX10_dusk_48 (gf_X10_19_10 rfl) rfl rfl ?_
      refine r_aload_n 52 rfl 0 dX10_dusk_51 rfl rfl ?_
      refine r_iload_n 53 rfl 3 dX10_dusk_52 rfl rfl ?_
      refine q_V 56 0 0 rfl [.int (nI c)] rfl dX10_dusk_53 cl_X10_dusk__X10_whose (lk_X10_152 rfl) im_X10_whose (ci := 10) rfl sl_X10__X10_whose rfl (Nat.le_of_ble_eq_true rfl) (fun _ _ => Nat.le_of_ble_eq_true rfl) rfl rfl (Nat.le_of_ble_eq_true rfl) (Nat.le_of_ble_eq_true rfl) ?_
      refine c_who hC' hM' (by omega) (k_i ?_)
      rw [hwa]
      refine r_dup2 57 rfl dX10_dusk_56 rfl rfl ?_
      refine r_iald (f := m' 41) 58 rfl a dX10_dusk_57 rfl rfl ha (by decide) ?_
      rw [show (m' 41) a = dk_t (WH D) ppl tax c a from hta]
      refine r_aload_n 59 rfl 0 dX10_dusk_58 rfl rfl ?_
      refine r_getf (v := .ref 40) (k := 8) 62 rfl dX10_dusk_59 (gf_X10_16_10 rfl) rfl rfl ?_
      refine r_iload_n 63 rfl 3 dX10_dusk_62 rfl rfl ?_
      refine r_iald (f := m' 40) 64 rfl c dX10_dusk_63 rfl rfl (by omega) (by decide) ?_
      rw [show (m' 40) c = ppl c from hp']
      refine r_iadd 65 rfl dX10_dusk_64 ?_
      refine w_iast 66 rfl a (va_up m' 41 (upd (m' 41) a ((dk_t (WH D) ppl tax c a) + (ppl c)))) dX10_dusk_65 (by decide) (by decide) (fun _ => rfl) rfl (by omega) (by decide) rfl ?_
      refine r_iload_n 67 rfl 2 dX10_dusk_66 rfl rfl ?_
      refine r_aload_n 68 rfl 0 dX10_dusk_67 rfl rfl ?_
      refine r_getf (v := .ref 40) (k := 8) 71 rfl dX10_dusk_68 (gf_X10_16_10 rfl) rfl rfl ?_
      refine r_iload_n 72 rfl 3 dX10_dusk_71 rfl rfl ?_
      refine r_iald (f := m' 40) 73 rfl c dX10_dusk_72 rfl rfl (by omega) (by decide) ?_
      rw [show (m' 40) c = ppl c from hp']
      refine r_iadd 74 rfl dX10_dusk_73 ?_
      refine r_istore_n 75 rfl 2 [some (.ref 37), some (.int (dk_n (WH D) ppl c)), some (.int ((dk_s (WH D) ppl c) + (ppl c))), some (.int (nI c))] dX10_dusk_74 rfl (by decide) rfl ?_
      refine r_iinc 78 rfl (nI (c + 1)) [some (.ref 37), some (.int (dk_n (WH D) ppl c)), some (.int ((dk_s (WH D) ppl c) + (ppl c))), some (.int (nI (c + 1)))] dX10_dusk_75 rfl (nI_1 _) (by decide) rfl ?_
      refine r_goto 20 dX10_dusk_78 rfl ?_
      have es : dk_s (WH D) ppl (c + 1) = dk_s (WH D) ppl c + ppl c := if_neg cw
      have en : dk_n (WH D) ppl (c + 1) = dk_n (WH D) ppl c := if_neg cw
      rw [← es, ← en]
      refine ih (c + 1) (by omega) _ (fun p h3 => ?_) (ag_up hag (by decide))
      rw [va_up_self, dk_t_s hwa ha h3]
      unfold upd
      by_cases hpa : p = a
      · rw [if_pos hpa, if_pos hpa, hpa]
      · rw [if_neg hpa, if_neg hpa]; exact ht p h3
    · refine r_iload_n 36 rfl 1 dX10_dusk_35 rfl rfl ?_
      refine r_aload_n 37 rfl 0 dX10_dusk_36 rfl rfl ?_
      refine r_getf (v := .ref 40) (k := 8) 40 rfl dX10_dusk_37 (gf_X10_16_10 rfl) rfl rfl ?_
      refine r_iload_n 41 rfl 3 dX10_dusk_40 rfl rfl ?_
      refine r_iald (f := m' 40) 42 rfl c dX10_dusk_41 rfl rfl (by omega) (by decide) ?_
      rw [show (m' 40) c = ppl c from hp']
      refine r_iadd 43 rfl dX10_dusk_42 ?_
      refine r_istore_n 44 rfl 1 [some (.ref 37), some (.int ((dk_n (WH D) ppl c) + (ppl c))), some (.int (dk_s (WH D) ppl c)), some (.int (nI c))] dX10_dusk_43 rfl (by decide) rfl ?_
      refine r_goto 75 dX10_dusk_44 rfl ?_
      refine r_iinc 78 rfl (nI (c + 1)) [some (.ref 37), some (.int ((dk_n (WH D) ppl c) + (ppl c))), some (.int (dk_s (WH D) ppl c)), some (.int (nI (c + 1)))] dX10_dusk_75 rfl (nI_1 _) (by decide) rfl ?_
      refine r_goto 20 dX10_dusk_78 rfl ?_
      have es : dk_s (WH D) ppl (c + 1) = dk_s (WH D) ppl c := if_pos cw
      have en : dk_n (WH D) ppl (c + 1) = dk_n (WH D) ppl c + ppl c := if_pos cw
      rw [← es, ← en]
      exact ih (c + 1) (by omega) m' (fun p h3 => (ht p h3).trans (dk_t_n cw h3).symm) hag
set_option maxHeartbeats 4000000 in
set_option maxRecDepth 20000 in
theorem lp_dusk10b {Q : am_P} {z : am_Z} {m : Nat → Nat → Int32} {n : Nat} {t : Nat → Int32} {a b : Int32} (ht : ∀ p, p < 3 → m 41 p = t p) (k : ∀ m', (∀ p, p < 3 → m' 41 p = t p + b / 2) → ag [41] m m' → Q (some (.int (dk_r (b / 2) a 3))) (wd z m') n) : ∀ (d c : Nat), c + d = 3 → ∀ m', (∀ p, p < c → m' 41 p = t p + b / 2) → (∀ p, c ≤ p → p < 3 → m' 41 p = t p) → ag [41] m m' → AW mX10_dusk Q 83 [some (.ref 37), some (.int b), some (.int (dk_r (b / 2) a c)), some (.int (nI c))] [] (wd z m') n 0 0 := by
  intro d
  induction d with
  | zero =>
    intro c hc m' h1 h2 hag
    obtain rfl : c = 3 := by omega
    refine r_iload_n 84 rfl 3 dX10_dusk_83 rfl rfl ?_
    refine r_iconst 85 rfl 3 dX10_dusk_84 rfl ?_
    refine r_icmp_ge 88 112 rfl dX10_dusk_85 rfl (fun _ => ?_) (fun q__ => absurd ((nI_leI (a := 3) (b := 3) (by omega) (by omega)).mpr (by omega)) q__)
    refine r_iload_n 113 rfl 2 dX10_dusk_112 rfl rfl ?_
    refine r_ireturn rfl dX10_dusk_113 (Nat.le_of_ble_eq_true rfl) (Nat.le_of_ble_eq_true rfl) ?_
    exact k m' (fun p hp => h1 p hp) hag
  | succ d ih =>
    intro c hc m' h1 h2 hag
    have hc2 : m' 41 c = t c := h2 c (Nat.le_refl c) (by omega)
    refine r_iload_n 84 rfl 3 dX10_dusk_83 rfl rfl ?_
    refine r_iconst 85 rfl 3 dX10_dusk_84 rfl ?_
    refine r_icmp_ge 88 112 rfl dX10_dusk_85 rfl (fun q__ => absurd q__ (fun q__ => absurd ((nI_leI (a := 3) (b := c) (by omega) (by omega)).mp q__) (by omega))) (fun _ => ?_)
    refine r_aload_n 89 rfl 0 dX10_dusk_88 rfl rfl ?_
    refine r_getf (v := .ref 41) (k := 9) 92 rfl dX10_dusk_89 (gf_X10_19_10 rfl) rfl rfl ?_
    refine r_iload_n 93 rfl 3 dX10_dusk_92 rfl rfl ?_
    refine r_dup2 94 rfl dX10_dusk_93 rfl rfl ?_
    refine r_iald (f := m' 41) 95 rfl c dX10_dusk_94 rfl rfl (by omega) (by decide) ?_
    rw [show (m' 41) c = t c from hc2]
    refine r_iload_n 96 rfl 1 dX10_dusk_95 rfl rfl ?_
    refine r_iconst 97 rfl 2 dX10_dusk_96 rfl ?_
    refine r_idiv 98 rfl dX10_dusk_97 (by decide) ?_
    refine r_iadd 99 rfl dX10_dusk_98 ?_
    refine w_iast 100 rfl c (va_up m' 41 (upd (m' 41) c ((t c) + (b / 2)))) dX10_dusk_99 (by decide) (by decide) (fun _ => rfl) rfl (by omega) (by decide) rfl ?_
    refine r_iload_n 101 rfl 2 dX10_dusk_100 rfl rfl ?_
    refine r_iload_n 102 rfl 1 dX10_dusk_101 rfl rfl ?_
    refine r_iconst 103 rfl 2 dX10_dusk_102 rfl ?_
    refine r_idiv 104 rfl dX10_dusk_103 (by decide) ?_
    refine r_iadd 105 rfl dX10_dusk_104 ?_
    refine r_istore_n 106 rfl 2 [some (.ref 37), some (.int b), some (.int ((dk_r (b / 2) a c) + (b / 2))), some (.int (nI c))] dX10_dusk_105 rfl (by decide) rfl ?_
    refine r_iinc 109 rfl (nI (c + 1)) [some (.ref 37), some (.int b), some (.int ((dk_r (b / 2) a c) + (b / 2))), some (.int (nI (c + 1)))] dX10_dusk_106 rfl (nI_1 _) (by decide) rfl ?_
    refine r_goto 83 dX10_dusk_109 rfl ?_
    refine ih (c + 1) (by omega) _ (fun p hp => ?_) (fun p h3 h4 => ?_) (ag_up hag (by decide))
    · rw [va_up_self]; unfold upd
      by_cases hpc : p = c
      · rw [if_pos hpc, hpc]
      · rw [if_neg hpc]; exact h1 p (by omega)
    · rw [va_up_self]; unfold upd; rw [if_neg (by omega)]; exact h2 p (by omega) h4

set_option maxHeartbeats 4000000 in
set_option maxRecDepth 20000 in
theorem c9_dusk_s {Q : am_P} {z : am_Z} {m : Nat → Nat → Int32} {n : Nat} (hfd : m 4 2 = nI 0) (k : Q (some (.int (-103))) (wd z m) n) : AW mX9_dusk Q 0 (am_ent (am_l mX9_dusk) [.ref 1]) [] (wd z m) n 0 0 := by
  show AW _ _ 0 [some (.ref 1), none, none, none, none] [] _ _ 0 0
  refine r_aload_n 1 rfl 0 dX9_dusk_0 rfl rfl ?_
  refine r_getf (v := .ref 4) (k := 1) 4 rfl dX9_dusk_1 (gf_X9_19_9 rfl) rfl rfl ?_
  refine q_V 7 0 0 rfl [] rfl dX9_dusk_4 cl_X9_dusk__X7_isThere (lk_X9_171 rfl) im_X7_isThere (ci := 7) rfl sl_X7__X7_isThere rfl (Nat.le_of_ble_eq_true rfl) (fun _ _ => Nat.le_of_ble_eq_true rfl) rfl rfl (Nat.le_of_ble_eq_true rfl) (Nat.le_of_ble_eq_true rfl) ?_
  refine c_isThere_f hfd (k_i ?_)
  refine r_if_ne 10 13 rfl dX9_dusk_7 rfl (fun q__ => absurd (by decide) q__) (fun _ => ?_)
  refine r_bipush 12 rfl (-103) dX9_dusk_10 (by decide) ?_
  refine r_ireturn rfl dX9_dusk_12 (Nat.le_of_ble_eq_true rfl) (Nat.le_of_ble_eq_true rfl) ?_
  exact k

set_option maxHeartbeats 4000000 in
set_option maxRecDepth 20000 in
theorem c10_dusk_s {Q : am_P} {z : am_Z} {m : Nat → Nat → Int32} {n : Nat} (hfd : m 37 2 = nI 0) (k : Q (some (.int (-103))) (wd z m) n) : AW mX10_dusk Q 0 (am_ent (am_l mX10_dusk) [.ref 37]) [] (wd z m) n 0 0 := by
  show AW _ _ 0 [some (.ref 37), none, none, none] [] _ _ 0 0
  refine r_aload_n 1 rfl 0 dX10_dusk_0 rfl rfl ?_
  refine q_V 4 0 0 rfl [] rfl dX10_dusk_1 cl_X10_dusk__X10_lacks (lk_X10_109 rfl) im_X10_lacks (ci := 10) rfl sl_X10__X10_lacks rfl (Nat.le_of_ble_eq_true rfl) (fun _ _ => Nat.le_of_ble_eq_true rfl) rfl rfl (Nat.le_of_ble_eq_true rfl) (Nat.le_of_ble_eq_true rfl) ?_
  refine c_lacks_t hfd (k_i ?_)
  refine r_if_eq 7 10 rfl dX10_dusk_4 rfl (fun q__ => absurd q__ (by decide)) (fun _ => ?_)
  refine r_bipush 9 rfl (-103) dX10_dusk_7 (by decide) ?_
  refine r_ireturn rfl dX10_dusk_9 (Nat.le_of_ble_eq_true rfl) (Nat.le_of_ble_eq_true rfl) ?_
  exact k

set_option maxHeartbeats 4000000 in
set_option maxRecDepth 20000 in
theorem c9_dusk_t {Q : am_P} {z : am_Z} {m : Nat → Nat → Int32} {n : Nat} {D : Nat → Nat → Nat} (hC : C9 z m D) (hf1 : 1 ≤ D 7 0) {ppl tax : Nat → Int32} (hpp : ∀ j, j < 8 → m 10 j = ppl j) (htx : ∀ j, j < 3 → m 11 j = tax j) (k : ∀ m', (∀ p, p < 3 → m' 11 p = dk_t (WH D) ppl tax 8 p + dk_n (WH D) ppl 8 / 2) → ag [11, 29, 30, 31, 32] m m' → Q (some (.int (dk_s (WH D) ppl 8 + 3 * (dk_n (WH D) ppl 8 / 2)))) (wd z m') n) : AW mX9_dusk Q 0 (am_ent (am_l mX9_dusk) [.ref 1]) [] (wd z m) n 0 0 := by
  show AW _ _ 0 [some (.ref 1), none, none, none, none] [] _ _ 0 0
  obtain ⟨hg, hfd, hf3, hf0, hns, hn6, hsd, hsb, hwi, hw4, hfr, hr1, hhr, hh⟩ := id hC
  refine r_aload_n 1 rfl 0 dX9_dusk_0 rfl rfl ?_
  refine r_getf (v := .ref 4) (k := 1) 4 rfl dX9_dusk_1 (gf_X9_19_9 rfl) rfl rfl ?_
  refine q_V 7 0 0 rfl [] rfl dX9_dusk_4 cl_X9_dusk__X7_isThere (lk_X9_171 rfl) im_X7_isThere (ci := 7) rfl sl_X7__X7_isThere rfl (Nat.le_of_ble_eq_true rfl) (fun _ _ => Nat.le_of_ble_eq_true rfl) rfl rfl (Nat.le_of_ble_eq_true rfl) (Nat.le_of_ble_eq_true rfl) ?_
  refine c_isThere_t hfd hf1 hf3 (k_i ?_)
  refine r_if_ne 10 13 rfl dX9_dusk_7 rfl (fun _ => ?_) (fun q__ => absurd q__ (by decide))
  refine r_aload_n 14 rfl 0 dX9_dusk_13 rfl rfl ?_
  refine q_V 17 0 0 rfl [] rfl dX9_dusk_14 cl_X9_dusk__X9_settleNow (lk_X9_103 rfl) im_X9_settleNow (ci := 9) rfl sl_X9__X9_settleNow rfl (Nat.le_of_ble_eq_true rfl) (fun _ _ => Nat.le_of_ble_eq_true rfl) rfl rfl (Nat.le_of_ble_eq_true rfl) (Nat.le_of_ble_eq_true rfl) ?_
  refine c_settleNow hC (fun m1 hA hag => (k_v ?_))
  refine r_iconst 18 rfl 0 dX9_dusk_17 rfl ?_
  refine r_istore_n 19 rfl 1 [some (.ref 1), some (.int 0), none, none, none] dX9_dusk_18 rfl (by decide) rfl ?_
  refine r_iconst 20 rfl 0 dX9_dusk_19 rfl ?_
  refine r_istore_n 21 rfl 2 [some (.ref 1), some (.int 0), some (.int 0), none, none] dX9_dusk_20 rfl (by decide) rfl ?_
  refine r_iconst 22 rfl 0 dX9_dusk_21 rfl ?_
  refine r_istore_n 23 rfl 3 [some (.ref 1), some (.int 0), some (.int 0), some (.int 0), none] dX9_dusk_22 rfl (by decide) rfl ?_
  refine lp_dusk9 (who := WH D) (ppl := ppl) (tax := tax) (fun j hj => (hA j hj).2.2) (fun j _ => WH_cases D (fun s hs => by obtain ⟨_, _, _, _, _, h, _⟩ := hsd s hs; exact h) j) (fun j hj => by rw [hag 10 (by decide)]; exact hpp j hj) (fun m2 h2 hag2 => ?_) 8 0 rfl m1 (fun p hp => by rw [hag 11 (by decide)]; exact htx p hp) (ag_r _ _)
  refine r_iconst 102 rfl 0 dX9_dusk_101 rfl ?_
  refine r_istore_n 103 rfl 3 [some (.ref 1), some (.int (dk_s (WH D) ppl 8)), some (.int (dk_n (WH D) ppl 8)), some (.int 0), none] dX9_dusk_102 rfl (by decide) rfl ?_
  exact lp_dusk9b (t := dk_t (WH D) ppl tax 8) h2 (fun m3 h3 hag3 => k m3 h3 (ag_t (ag_t (ag_w hag (by decide)) hag2 (by decide)) hag3 (by decide))) 3 0 rfl m2 (fun p hp => absurd hp (Nat.not_lt_zero p)) (fun p _ hp => h2 p hp) (ag_r _ _)

set_option maxHeartbeats 4000000 in
set_option maxRecDepth 20000 in
theorem c10_dusk_t {Q : am_P} {z : am_Z} {m : Nat → Nat → Int32} {n : Nat} {D : Nat → Nat → Nat} (hC : C10 m D) (hf1 : 1 ≤ D 7 0) {ppl tax : Nat → Int32} (hpp : ∀ j, j < 8 → m 40 j = ppl j) (htx : ∀ j, j < 3 → m 41 j = tax j) (k : ∀ m', (∀ p, p < 3 → m' 41 p = dk_t (WH D) ppl tax 8 p + dk_n (WH D) ppl 8 / 2) → ag [41, 43, 44, 45] m m' → Q (some (.int (dk_r (dk_n (WH D) ppl 8 / 2) (dk_s (WH D) ppl 8) 3))) (wd z m') n) : AW mX10_dusk Q 0 (am_ent (am_l mX10_dusk) [.ref 37]) [] (wd z m) n 0 0 := by
  show AW _ _ 0 [some (.ref 37), none, none, none] [] _ _ 0 0
  obtain ⟨hg, hfd, hf3, hf0, hns, hn7, hmr, hwi, hw4, hfr, hr1, hhr, hh⟩ := id hC
  refine r_aload_n 1 rfl 0 dX10_dusk_0 rfl rfl ?_
  refine q_V 4 0 0 rfl [] rfl dX10_dusk_1 cl_X10_dusk__X10_lacks (lk_X10_109 rfl) im_X10_lacks (ci := 10) rfl sl_X10__X10_lacks rfl (Nat.le_of_ble_eq_true rfl) (fun _ _ => Nat.le_of_ble_eq_true rfl) rfl rfl (Nat.le_of_ble_eq_true rfl) (Nat.le_of_ble_eq_true rfl) ?_
  refine c_lacks_f hfd hf1 hf3 (k_i ?_)
  refine r_if_eq 7 10 rfl dX10_dusk_4 rfl (fun _ => ?_) (fun q__ => absurd (by decide) q__)
  refine r_aload_n 11 rfl 0 dX10_dusk_10 rfl rfl ?_
  refine q_V 14 0 0 rfl [] rfl dX10_dusk_11 cl_X10_dusk__X10_layCells (lk_X10_149 rfl) im_X10_layCells (ci := 10) rfl sl_X10__X10_layCells rfl (Nat.le_of_ble_eq_true rfl) (fun _ _ => Nat.le_of_ble_eq_true rfl) rfl rfl (Nat.le_of_ble_eq_true rfl) (Nat.le_of_ble_eq_true rfl) ?_
  refine c_layC hC (fun m1 hM hag => (k_v ?_))
  refine r_iconst 15 rfl 0 dX10_dusk_14 rfl ?_
  refine r_istore_n 16 rfl 1 [some (.ref 37), some (.int 0), none, none] dX10_dusk_15 rfl (by decide) rfl ?_
  refine r_iconst 17 rfl 0 dX10_dusk_16 rfl ?_
  refine r_istore_n 18 rfl 2 [some (.ref 37), some (.int 0), some (.int 0), none] dX10_dusk_17 rfl (by decide) rfl ?_
  refine r_iconst 19 rfl 0 dX10_dusk_18 rfl ?_
  refine r_istore_n 20 rfl 3 [some (.ref 37), some (.int 0), some (.int 0), some (.int 0)] dX10_dusk_19 rfl (by decide) rfl ?_
  refine lp_dusk10 (ppl := ppl) (tax := tax) (C10_ag hC hag (by decide)) hM (fun j _ => WH_cases D (fun s hs => (hmr s hs).2.2.1) j) (fun j hj => by rw [hag 40 (by decide)]; exact hpp j hj) (fun m2 h2 hag2 => ?_) 8 0 rfl m1 (fun p hp => by rw [hag 41 (by decide)]; exact htx p hp) (ag_r _ _)
  refine r_iconst 82 rfl 0 dX10_dusk_81 rfl ?_
  refine r_istore_n 83 rfl 3 [some (.ref 37), some (.int (dk_n (WH D) ppl 8)), some (.int (dk_s (WH D) ppl 8)), some (.int 0)] dX10_dusk_82 rfl (by decide) rfl ?_
  exact lp_dusk10b (t := dk_t (WH D) ppl tax 8) h2 (fun m3 h3 hag3 => k m3 h3 (ag_t (ag_t (ag_w hag (by decide)) hag2 (by decide)) hag3 (by decide))) 3 0 rfl m2 (fun p hp => absurd hp (Nat.not_lt_zero p)) (fun p _ hp => h2 p hp) (ag_r _ _)

theorem IV_tax {i : Nat} {z : am_Z} {m m' : Nat → Nat → Int32} {n : Nat} {D K : Nat → Nat → Nat} (h : IV i z m n D K) (hag : ag [11, 29, 30, 31, 32, 41, 43, 44, 45] m m') (ht : ∀ j, j < 3 → m' 11 j = m' 41 j) : IV i z m' n D K := by
  have hI1 : IV i z (va_up (va_up m' 11 (m 11)) 41 (m 41)) n D K := IV_ag h (fun x hx => by
    by_cases h1 : x = 41
    · subst h1; rw [va_up_self]
    · rw [va_up_ne _ _ h1]
      by_cases h2 : x = 11
      · subst h2; rw [va_up_self]
      · rw [va_up_ne _ _ h2]; refine hag x (fun q => hx ?_); simp only [List.mem_cons, List.not_mem_nil, or_false] at q ⊢; omega)
  obtain ⟨h9, h10, hnz, hpg, hop, hnw, hct, him⟩ := hI1
  exact ⟨h9, h10, hnz, hpg, hop, ⟨⟨hnw.1.1, ht, hnw.1.2.2⟩, hnw.2⟩, hct, him⟩

set_option maxHeartbeats 4000000 in
set_option maxRecDepth 20000 in
theorem P_dusk {i : Nat} {z : am_Z} {m : Nat → Nat → Int32} {n : Nat} {D K : Nat → Nat → Nat} (hI : IV i z m n D K) (hi : i + 5 ≤ 2560)  : AW mX9_dusk (PR (i + 5) mX10_dusk [.ref 37]) 0 (am_ent (am_l mX9_dusk) [.ref 1]) [] (wd z m) n 0 0 := by
  obtain ⟨h9, h10, hnz, hpg, hop, hnw, hct, him⟩ := id hI
  obtain ⟨hg, hfd, hf3, hf0, hns, hn6, hsd, hsb, hwi, hw4, hfr, hr1, hhr, hh⟩ := id h9
  obtain ⟨gg, gfd, gf3, gf0, gns, gn7, gmr, gwi, gw4, gfr, gr1, ghr, gh⟩ := id h10
  by_cases hf : D 7 0 = 0
  · exact c9_dusk_s (by rw [hfd, hf]) (PR_i (fun Q2 k => c10_dusk_s (by rw [gfd, hf]) (k _ _ _ _ _ (IV_mono hI (by omega) hi))))
  · refine c9_dusk_t h9 (by omega) (ppl := m 10) (tax := m 11) (fun _ _ => rfl) (fun _ _ => rfl) (fun m1 h1 hag => PR_i (fun Q2 k => ?_))
    refine c10_dusk_t (ppl := m 10) (tax := m 11) (C10_ag h10 hag (by decide)) (by omega) (fun j hj => by rw [hag 40 (by decide)]; exact (hnw.1.1 j hj).symm) (fun j hj => by rw [hag 41 (by decide)]; exact (hnw.1.2.1 j hj).symm) (fun m2 h2 hag2 => ?_)
    rw [← dk_3]
    refine k _ _ _ _ _ (IV_mono (IV_tax hI (ag_t (ag_w hag (by decide)) hag2 (by decide)) (fun j hj => ?_)) (by omega) hi)
    rw [h2 j hj, hag2 11 (by decide), h1 j hj]
