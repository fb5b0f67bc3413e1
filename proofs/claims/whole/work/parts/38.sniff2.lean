set_option maxHeartbeats 4000000 in
set_option maxRecDepth 20000 in
theorem lp_sn0 {Q : am_P} {z : am_Z} {m : Nat → Nat → Int32} {n : Nat} (kx : ∀ m', (∀ j, j < 32 → m' 49 j = 0) → ag [49] m m' → AW mX10_sniff Q 50 [some (.ref 37), none, none, none, none, none, none] [] (wd z m') n 0 0) : ∀ (d c : Nat), c + d = 32 → ∀ m', (∀ j, j < c → m' 49 j = 0) → ag [49] m m' → AW mX10_sniff Q 31 [some (.ref 37), some (.int (nI c)), none, none, none, none, none] [] (wd z m') n 0 0 := by
  intro d
  induction d with
  | zero =>
    intro c hc m' h0 hag
    obtain rfl : c = 32 := by omega
    refine r_iload_n 32 rfl 1 dX10_sniff_31 rfl rfl ?_
    refine r_bipush 34 rfl 32 dX10_sniff_32 (by decide) ?_
    refine r_icmp_ge 37 50 rfl dX10_sniff_34 rfl (fun _ => ?_) (fun q__ => absurd ((nI_leI (a := 32) (b := 32) (by omega) (by omega)).mpr (by omega)) q__)
    refine AW.drop 1 [some (.ref 37), none, none, none, none, none, none] rfl ?_
    exact kx m' h0 hag
  | succ d ih =>
    intro c hc m' h0 hag
    refine r_iload_n 32 rfl 1 dX10_sniff_31 rfl rfl ?_
    refine r_bipush 34 rfl 32 dX10_sniff_32 (by decide) ?_
    refine r_icmp_ge 37 50 rfl dX10_sniff_34 rfl (fun q__ => absurd q__ (fun q__ => absurd ((nI_leI (a := 32) (b := c) (by omega) (by omega)).mp q__) (by omega))) (fun _ => ?_)
    refine r_aload_n 38 rfl 0 dX10_sniff_37 rfl rfl ?_
    refine r_getf (v := .ref 49) (k := 21) 41 rfl dX10_sniff_38 (gf_X10_43_10 rfl) rfl rfl ?_
    refine r_iload_n 42 rfl 1 dX10_sniff_41 rfl rfl ?_
    refine r_iconst 43 rfl 0 dX10_sniff_42 rfl ?_
    refine w_iast 44 rfl c (va_up m' 49 (upd (m' 49) c 0)) dX10_sniff_43 (by decide) (by decide) (fun _ => rfl) rfl (by omega) (by decide) rfl ?_
    refine r_iinc 47 rfl (nI (c + 1)) [some (.ref 37), some (.int (nI (c + 1))), none, none, none, none, none] dX10_sniff_44 rfl (nI_1 _) (by decide) rfl ?_
    refine r_goto 31 dX10_sniff_47 rfl ?_
    refine ih (c + 1) (by omega) _ (fun j hj => ?_) (ag_up hag (by decide))
    rw [va_up_self]; unfold upd
    by_cases h : j = c
    · rw [if_pos h]
    · rw [if_neg h]; exact h0 j (by omega)

theorem C10_49 {m m' : Nat → Nat → Int32} {D : Nat → Nat → Nat} (hC : C10 m D) (hag : ag [42, 43, 44, 45, 49] m m') (g : ∀ j, j < 6 * D 7 1 → m' 42 j = m 42 j) : C10 m' D := by
  obtain ⟨hg, hfd, hf3, hf0, hns, hn7, hmr, hwi, hw4, hfr, hr1, hhr, hh⟩ := id hC
  refine ⟨fun j hj => ?_, ?_, hf3, hf0, ?_, hn7, fun s hs => ?_, ?_, hw4, ?_, hr1, ?_, hh⟩
  · rw [hag 39 (by decide)]; exact hg j hj
  · rw [hag 37 (by decide)]; exact hfd
  · rw [hag 37 (by decide)]; exact hns
  · rw [g (6 * s) (by omega), g (6 * s + 1) (by omega), g (6 * s + 2) (by omega), g (6 * s + 3) (by omega), g (6 * s + 4) (by omega), g (6 * s + 5) (by omega)]
    exact hmr s hs
  · rw [hag 37 (by decide)]; exact hwi
  · rw [hag 37 (by decide)]; exact hfr
  · rw [hag 37 (by decide)]; exact hhr

set_option maxHeartbeats 4000000 in
set_option maxRecDepth 20000 in
theorem lp_sn2 {Q : am_P} {z : am_Z} {m : Nat → Nat → Int32} {n : Nat} {D : Nat → Nat → Nat} (hC : C10 m D) (hn : D 7 1 ≤ 6) (hf1 : 1 ≤ D 7 0) {nc : Nat → Nat} {np : Nat → Int32} {nn : Nat} (hnn : m 37 18 = nI nn) (hn8 : nn ≤ 8) (hnc : ∀ j, j < nn → m 48 (2 * j) = nI (nc j) ∧ nc j < 8) (hnp : ∀ j, j < nn → m 48 (2 * j + 1) = np j) (kx : ∀ m', (∀ j, j < 32 → m' 49 j = nI (tl (fit D nc np nn) (gD D) j 216)) → (∀ j, j < 6 * D 7 1 → m' 42 j = m 42 j) → ag [42, 43, 44, 45, 49] m m' → AW mX10_sniff Q 123 [some (.ref 37), some (.int (nI (cn (fit D nc np nn) 216))), none, none, none, none, none] [] (wd z m') n 0 0) : ∀ (d k : Nat), k + d = 216 → ∀ m', (∀ j, j < 32 → m' 49 j = nI (tl (fit D nc np nn) (gD D) j k)) → (∀ j, j < 6 * D 7 1 → m' 42 j = m 42 j) → ag [42, 43, 44, 45, 49] m m' → AW mX10_sniff Q 54 [some (.ref 37), some (.int (nI (cn (fit D nc np nn) k))), some (.int (nI k)), none, none, none, none] [] (wd z m') n 0 0 := by
  have hpa : ∀ s, s < D 7 1 → D 2 s < 3 := fun s hs => (hC.2.2.2.2.2.2.1 s hs).2.2.1
  intro d
  induction d with
  | zero =>
    intro k hk m' ht h42 hag
    obtain rfl : k = 216 := by omega
    refine r_iload_n 55 rfl 2 dX10_sniff_54 rfl rfl ?_
    refine r_sipush 58 rfl 216 dX10_sniff_55 (by decide) ?_
    refine r_icmp_ge 61 123 rfl dX10_sniff_58 rfl (fun _ => ?_) (fun q__ => absurd ((nI_leI (a := 216) (b := 216) (by omega) (by omega)).mpr (by omega)) q__)
    refine AW.drop 2 [some (.ref 37), some (.int (nI (cn (fit D nc np nn) 216))), none, none, none, none, none] rfl ?_
    exact kx m' ht h42 hag
  | succ d ih =>
    intro k hk m' ht h42 hag
    have hcn := cn_le (fit D nc np nn) k
    have hC' : C10 m' D := C10_49 hC hag h42
    have e1 : cn (fit D nc np nn) (k + 1) = cn (fit D nc np nn) k + (if (fit D nc np nn) k = true then 1 else 0) := rfl
    by_cases hP : (fit D nc np nn) k = true
    · refine r_iload_n 55 rfl 2 dX10_sniff_54 rfl rfl ?_
      refine r_sipush 58 rfl 216 dX10_sniff_55 (by decide) ?_
      refine r_icmp_ge 61 123 rfl dX10_sniff_58 rfl (fun q__ => absurd q__ (fun q__ => absurd ((nI_leI (a := 216) (b := k) (by omega) (by omega)).mp q__) (by omega))) (fun _ => ?_)
      refine r_aload_n 62 rfl 0 dX10_sniff_61 rfl rfl ?_
      refine r_iload_n 63 rfl 2 dX10_sniff_62 rfl rfl ?_
      refine q_V 66 0 0 rfl [.int (nI k)] rfl dX10_sniff_63 cl_X10_sniff__X10_isSmeltBy (lk_X10_204 rfl) im_X10_isSmeltBy (ci := 10) rfl sl_X10__X10_isSmeltBy rfl (Nat.le_of_ble_eq_true rfl) (fun _ _ => Nat.le_of_ble_eq_true rfl) rfl rfl (Nat.le_of_ble_eq_true rfl) (Nat.le_of_ble_eq_true rfl) ?_
      refine c_smelt hC' hn hf1 (by rw [hag 37 (by decide)]; exact hnn) hn8 (fun j hj => by rw [hag 48 (by decide)]; exact hnc j hj) (fun j hj => by rw [hag 48 (by decide)]; exact hnp j hj) (k := k) (by omega) (fun _ m2 h44 hr42 g42 hag2 => (k_i ?_)) (fun h => absurd hP h)
      refine r_if_eq 69 117 rfl dX10_sniff_66 rfl (fun q__ => absurd q__ (by decide)) (fun _ => ?_)
      refine r_iinc 72 rfl (nI ((cn (fit D nc np nn) k) + 1)) [some (.ref 37), some (.int (nI ((cn (fit D nc np nn) k) + 1))), some (.int (nI k)), none, none, none, none] dX10_sniff_69 rfl (nI_1 _) (by decide) rfl ?_
      refine r_iconst 73 rfl 0 dX10_sniff_72 rfl ?_
      refine r_istore_n 74 rfl 3 [some (.ref 37), some (.int (nI ((cn (fit D nc np nn) k) + 1))), some (.int (nI k)), some (.int 0), none, none, none] dX10_sniff_73 rfl (by decide) rfl ?_
      rw [if_pos hP] at e1
      rw [show cn (fit D nc np nn) k + 1 = cn (fit D nc np nn) (k + 1) from e1.symm]
      refine lp_sn1 (P := (fit D nc np nn)) hpa hn (by omega) hP h44 hr42 (fun m3 ht3 hag3 => ?_) 8 0 rfl m2 (fun j hj => by rw [hag2 49 (by decide), tq_0]; exact ht j hj) (ag_r _ _)
      refine r_iinc 120 rfl (nI (k + 1)) [some (.ref 37), some (.int (nI (cn (fit D nc np nn) (k + 1)))), some (.int (nI (k + 1))), none, none, none, none] dX10_sniff_117 rfl (nI_1 _) (by decide) rfl ?_
      refine r_goto 54 dX10_sniff_120 rfl ?_
      exact ih (k + 1) (by omega) m3 ht3 (fun j hj => by rw [hag3 42 (by decide)]; exact (g42 j hj).trans (h42 j hj)) (ag_t (ag_t hag hag2 (by decide)) hag3 (by decide))
    · refine r_iload_n 55 rfl 2 dX10_sniff_54 rfl rfl ?_
      refine r_sipush 58 rfl 216 dX10_sniff_55 (by decide) ?_
      refine r_icmp_ge 61 123 rfl dX10_sniff_58 rfl (fun q__ => absurd q__ (fun q__ => absurd ((nI_leI (a := 216) (b := k) (by omega) (by omega)).mp q__) (by omega))) (fun _ => ?_)
      refine r_aload_n 62 rfl 0 dX10_sniff_61 rfl rfl ?_
      refine r_iload_n 63 rfl 2 dX10_sniff_62 rfl rfl ?_
      refine q_V 66 0 0 rfl [.int (nI k)] rfl dX10_sniff_63 cl_X10_sniff__X10_isSmeltBy (lk_X10_204 rfl) im_X10_isSmeltBy (ci := 10) rfl sl_X10__X10_isSmeltBy rfl (Nat.le_of_ble_eq_true rfl) (fun _ _ => Nat.le_of_ble_eq_true rfl) rfl rfl (Nat.le_of_ble_eq_true rfl) (Nat.le_of_ble_eq_true rfl) ?_
      refine c_smelt hC' hn hf1 (by rw [hag 37 (by decide)]; exact hnn) hn8 (fun j hj => by rw [hag 48 (by decide)]; exact hnc j hj) (fun j hj => by rw [hag 48 (by decide)]; exact hnp j hj) (k := k) (by omega) (fun h => absurd h hP) (fun _ m2 g42 hag2 => (k_i ?_))
      refine r_if_eq 69 117 rfl dX10_sniff_66 rfl (fun _ => ?_) (fun q__ => absurd (by decide) q__)
      refine r_iinc 120 rfl (nI (k + 1)) [some (.ref 37), some (.int (nI (cn (fit D nc np nn) k))), some (.int (nI (k + 1))), none, none, none, none] dX10_sniff_117 rfl (nI_1 _) (by decide) rfl ?_
      refine r_goto 54 dX10_sniff_120 rfl ?_
      rw [if_neg hP] at e1
      rw [show cn (fit D nc np nn) k = cn (fit D nc np nn) (k + 1) from e1.symm]
      exact ih (k + 1) (by omega) m2 (fun j hj => by rw [hag2 49 (by decide), tq_f hP]; exact ht j hj) (fun j hj => (g42 j hj).trans (h42 j hj)) (ag_t hag hag2 (by decide))

set_option maxHeartbeats 4000000 in
set_option maxRecDepth 20000 in
theorem lp_sn3 {Q : am_P} {z : am_Z} {m : Nat → Nat → Int32} {n : Nat} {F : Nat → Nat} (hF : ∀ j, F j ≤ 216) (h36 : ∀ j, j < 32 → m 49 j = nI (F j)) {b : Int32} {x l c : Nat} (hc : c < 8) (kx : AW mX10_sniff Q 197 [some (.ref 37), some (.int (nI x)), some (.int b), some (.int (nI l)), some (.int (nI c)), some (.int (nI (mx (fun q => F (4 * c + q)) 4))), none] [] (wd z m) n 0 0) : ∀ (d q : Nat), q + d = 4 → AW mX10_sniff Q 149 [some (.ref 37), some (.int (nI x)), some (.int b), some (.int (nI l)), some (.int (nI c)), some (.int (nI (mx (fun q => F (4 * c + q)) q))), some (.int (nI q))] [] (wd z m) n 0 0 := by
  intro d
  induction d with
  | zero =>
    intro q hq
    obtain rfl : q = 4 := by omega
    refine r_iload 151 rfl dX10_sniff_149 rfl ?_
    refine r_iconst 152 rfl 4 dX10_sniff_151 rfl ?_
    refine r_icmp_ge 155 197 rfl dX10_sniff_152 rfl (fun _ => ?_) (fun q__ => absurd ((nI_leI (a := 4) (b := 4) (by omega) (by omega)).mpr (by omega)) q__)
    refine AW.drop 6 [some (.ref 37), some (.int (nI x)), some (.int b), some (.int (nI l)), some (.int (nI c)), some (.int (nI (mx (fun q => F (4 * c + q)) 4))), none] rfl ?_
    exact kx
  | succ d ih =>
    intro q hq
    have e := h36 (4 * c + q) (by omega)
    have hF1 := hF (4 * c + q)
    have hm1 := mx_le (a := (fun q => F (4 * c + q))) (B := 216) (fun q => hF _) q
    refine r_iload 151 rfl dX10_sniff_149 rfl ?_
    refine r_iconst 152 rfl 4 dX10_sniff_151 rfl ?_
    refine r_icmp_ge 155 197 rfl dX10_sniff_152 rfl (fun q__ => absurd q__ (fun q__ => absurd ((nI_leI (a := 4) (b := q) (by omega) (by omega)).mp q__) (by omega))) (fun _ => ?_)
    refine r_aload_n 156 rfl 0 dX10_sniff_155 rfl rfl ?_
    refine r_getf (v := .ref 49) (k := 21) 159 rfl dX10_sniff_156 (gf_X10_43_10 rfl) rfl rfl ?_
    refine r_iconst 160 rfl 4 dX10_sniff_159 rfl ?_
    refine r_iload 162 rfl dX10_sniff_160 rfl ?_
    refine r_imul 163 rfl dX10_sniff_162 ?_
    rw [show 4 * (nI c) = nI (4 * c) from pk_mul 4 c]
    refine r_iload 165 rfl dX10_sniff_163 rfl ?_
    refine r_iadd 166 rfl dX10_sniff_165 ?_
    rw [show (nI (4 * c)) + (nI q) = nI ((4 * c) + q) from nI_add (4 * c) q]
    refine r_iald (f := m 49) 167 rfl ((4 * c) + q) dX10_sniff_166 rfl rfl (by omega) (by decide) ?_
    rw [show (m 49) ((4 * c) + q) = nI (F (4 * c + q)) from e]
    refine r_iload 169 rfl dX10_sniff_167 rfl ?_
    refine r_icmp_le 172 187 rfl dX10_sniff_169 rfl (fun c169 => ?_) (fun c169 => ?_)
    · replace c169 : F (4 * c + q) ≤ mx (fun q => F (4 * c + q)) q := (nI_leI (a := (F (4 * c + q))) (b := (mx (fun q => F (4 * c + q)) q)) (by omega) (by omega)).mp c169
      refine r_iload 189 rfl dX10_sniff_187 rfl ?_
      refine r_istore 191 rfl [some (.ref 37), some (.int (nI x)), some (.int b), some (.int (nI l)), some (.int (nI c)), some (.int (nI (mx (fun q => F (4 * c + q)) q))), some (.int (nI q))] dX10_sniff_189 (by decide) rfl ?_
      refine r_iinc 194 rfl (nI (q + 1)) [some (.ref 37), some (.int (nI x)), some (.int b), some (.int (nI l)), some (.int (nI c)), some (.int (nI (mx (fun q => F (4 * c + q)) q))), some (.int (nI (q + 1)))] dX10_sniff_191 rfl (nI_1 _) (by decide) rfl ?_
      refine r_goto 149 dX10_sniff_194 rfl ?_
      have hx := ih (q + 1) (by omega)
      have e1 : mx (fun q => F (4 * c + q)) (q + 1) = mx (fun q => F (4 * c + q)) q := if_neg (show ¬ mx (fun q => F (4 * c + q)) q < F (4 * c + q) by omega)
      rw [e1] at hx
      exact hx
    · replace c169 : ¬ (F (4 * c + q)) ≤ (mx (fun q => F (4 * c + q)) q) := fun q__ => c169 ((nI_leI (a := (F (4 * c + q))) (b := (mx (fun q => F (4 * c + q)) q)) (by omega) (by omega)).mpr q__)
      refine r_aload_n 173 rfl 0 dX10_sniff_172 rfl rfl ?_
      refine r_getf (v := .ref 49) (k := 21) 176 rfl dX10_sniff_173 (gf_X10_43_10 rfl) rfl rfl ?_
      refine r_iconst 177 rfl 4 dX10_sniff_176 rfl ?_
      refine r_iload 179 rfl dX10_sniff_177 rfl ?_
      refine r_imul 180 rfl dX10_sniff_179 ?_
      rw [show 4 * (nI c) = nI (4 * c) from pk_mul 4 c]
      refine r_iload 182 rfl dX10_sniff_180 rfl ?_
      refine r_iadd 183 rfl dX10_sniff_182 ?_
      rw [show (nI (4 * c)) + (nI q) = nI ((4 * c) + q) from nI_add (4 * c) q]
      refine r_iald (f := m 49) 184 rfl ((4 * c) + q) dX10_sniff_183 rfl rfl (by omega) (by decide) ?_
      rw [show (m 49) ((4 * c) + q) = nI (F (4 * c + q)) from e]
      refine r_goto 189 dX10_sniff_184 rfl ?_
      refine r_istore 191 rfl [some (.ref 37), some (.int (nI x)), some (.int b), some (.int (nI l)), some (.int (nI c)), some (.int (nI (F (4 * c + q)))), some (.int (nI q))] dX10_sniff_189 (by decide) rfl ?_
      refine r_iinc 194 rfl (nI (q + 1)) [some (.ref 37), some (.int (nI x)), some (.int b), some (.int (nI l)), some (.int (nI c)), some (.int (nI (F (4 * c + q)))), some (.int (nI (q + 1)))] dX10_sniff_191 rfl (nI_1 _) (by decide) rfl ?_
      refine r_goto 149 dX10_sniff_194 rfl ?_
      have hx := ih (q + 1) (by omega)
      have e1 : mx (fun q => F (4 * c + q)) (q + 1) = F (4 * c + q) := if_pos (show mx (fun q => F (4 * c + q)) q < F (4 * c + q) by omega)
      rw [e1] at hx
      exact hx

set_option maxHeartbeats 4000000 in
set_option maxRecDepth 20000 in
theorem lp_sn4 {Q : am_P} {z : am_Z} {m : Nat → Nat → Int32} {n : Nat} {F : Nat → Nat} (hF : ∀ j, F j ≤ 216) (h36 : ∀ j, j < 32 → m 49 j = nI (F j)) {x : Nat} (hx0 : 0 < x) (hx1 : x ≤ 216) (k : Q (some (.int (bb (fun c => mx (fun q => F (4 * c + q)) 4) 1000 8))) (wd z m) n) : ∀ (d c : Nat), c + d = 8 → AW mX10_sniff Q 132 [some (.ref 37), some (.int (nI x)), some (.int (bb (fun c => mx (fun q => F (4 * c + q)) 4) 1000 c)), some (.int (nI (bf (fun c => mx (fun q => F (4 * c + q)) 4) 1000 c))), some (.int (nI c)), none, none] [] (wd z m) n 0 0 := by
  intro d
  induction d with
  | zero =>
    intro c hc
    obtain rfl : c = 8 := by omega
    refine r_iload 134 rfl dX10_sniff_132 rfl ?_
    refine r_bipush 136 rfl 8 dX10_sniff_134 (by decide) ?_
    refine r_icmp_ge 139 229 rfl dX10_sniff_136 rfl (fun _ => ?_) (fun q__ => absurd ((nI_leI (a := 8) (b := 8) (by omega) (by omega)).mpr (by omega)) q__)
    refine r_iload_n 230 rfl 2 dX10_sniff_229 rfl rfl ?_
    refine r_ireturn rfl dX10_sniff_230 (Nat.le_of_ble_eq_true rfl) (Nat.le_of_ble_eq_true rfl) ?_
    exact k
  | succ d ih =>
    intro c hc
    have hb1 := bf_le (fun c => mx (fun q => F (4 * c + q)) 4) 1000 c
    have hm1 := mx_le (a := (fun q => F (4 * c + q))) (B := 216) (fun q => hF _) 4
    refine r_iload 134 rfl dX10_sniff_132 rfl ?_
    refine r_bipush 136 rfl 8 dX10_sniff_134 (by decide) ?_
    refine r_icmp_ge 139 229 rfl dX10_sniff_136 rfl (fun q__ => absurd q__ (fun q__ => absurd ((nI_leI (a := 8) (b := c) (by omega) (by omega)).mp q__) (by omega))) (fun _ => ?_)
    refine r_iload_n 140 rfl 1 dX10_sniff_139 rfl rfl ?_
    refine r_if_le 143 229 rfl dX10_sniff_140 rfl (fun q__ => absurd q__ (fun q__ => absurd ((nI_leI (a := x) (b := 0) (by omega) (by omega)).mp q__) (by omega))) (fun _ => ?_)
    refine r_iconst 144 rfl 0 dX10_sniff_143 rfl ?_
    refine r_istore 146 rfl [some (.ref 37), some (.int (nI x)), some (.int (bb (fun c => mx (fun q => F (4 * c + q)) 4) 1000 c)), some (.int (nI (bf (fun c => mx (fun q => F (4 * c + q)) 4) 1000 c))), some (.int (nI c)), some (.int 0), none] dX10_sniff_144 (by decide) rfl ?_
    refine r_iconst 147 rfl 0 dX10_sniff_146 rfl ?_
    refine r_istore 149 rfl [some (.ref 37), some (.int (nI x)), some (.int (bb (fun c => mx (fun q => F (4 * c + q)) 4) 1000 c)), some (.int (nI (bf (fun c => mx (fun q => F (4 * c + q)) 4) 1000 c))), some (.int (nI c)), some (.int 0), some (.int 0)] dX10_sniff_147 (by decide) rfl ?_
    refine lp_sn3 hF h36 (by omega) ?_ 4 0 rfl
    refine r_iload 199 rfl dX10_sniff_197 rfl ?_
    refine r_iload_n 200 rfl 3 dX10_sniff_199 rfl rfl ?_
    refine r_icmp_ge 203 208 rfl dX10_sniff_200 rfl (fun c200 => ?_) (fun c200 => ?_)
    · replace c200 : bf (fun c => mx (fun q => F (4 * c + q)) 4) 1000 c ≤ mx (fun q => F (4 * c + q)) 4 := (nI_leI (a := (bf (fun c => mx (fun q => F (4 * c + q)) 4) 1000 c)) (b := (mx (fun q => F (4 * c + q)) 4)) (by omega) (by omega)).mp c200
      replace c200 : ¬ mx (fun q => F (4 * c + q)) 4 < bf (fun c => mx (fun q => F (4 * c + q)) 4) 1000 c := by omega
      refine r_iload_n 209 rfl 2 dX10_sniff_208 rfl rfl ?_
      refine r_istore_n 210 rfl 2 [some (.ref 37), some (.int (nI x)), some (.int (bb (fun c => mx (fun q => F (4 * c + q)) 4) 1000 c)), some (.int (nI (bf (fun c => mx (fun q => F (4 * c + q)) 4) 1000 c))), some (.int (nI c)), some (.int (nI (mx (fun q => F (4 * c + q)) 4))), none] dX10_sniff_209 rfl (by decide) rfl ?_
      refine r_iload 212 rfl dX10_sniff_210 rfl ?_
      refine r_iload_n 213 rfl 3 dX10_sniff_212 rfl rfl ?_
      refine r_icmp_ge 216 221 rfl dX10_sniff_213 rfl (fun _ => ?_) (fun q__ => absurd ((nI_leI (a := (bf (fun c => mx (fun q => F (4 * c + q)) 4) 1000 c)) (b := (mx (fun q => F (4 * c + q)) 4)) (by omega) (by omega)).mpr (by omega)) q__)
      refine r_iload_n 222 rfl 3 dX10_sniff_221 rfl rfl ?_
      refine r_istore_n 223 rfl 3 [some (.ref 37), some (.int (nI x)), some (.int (bb (fun c => mx (fun q => F (4 * c + q)) 4) 1000 c)), some (.int (nI (bf (fun c => mx (fun q => F (4 * c + q)) 4) 1000 c))), some (.int (nI c)), some (.int (nI (mx (fun q => F (4 * c + q)) 4))), none] dX10_sniff_222 rfl (by decide) rfl ?_
      refine r_iinc 226 rfl (nI (c + 1)) [some (.ref 37), some (.int (nI x)), some (.int (bb (fun c => mx (fun q => F (4 * c + q)) 4) 1000 c)), some (.int (nI (bf (fun c => mx (fun q => F (4 * c + q)) 4) 1000 c))), some (.int (nI (c + 1))), some (.int (nI (mx (fun q => F (4 * c + q)) 4))), none] dX10_sniff_223 rfl (nI_1 _) (by decide) rfl ?_
      refine r_goto 132 dX10_sniff_226 rfl ?_
      refine AW.drop 5 [some (.ref 37), some (.int (nI x)), some (.int (bb (fun c => mx (fun q => F (4 * c + q)) 4) 1000 c)), some (.int (nI (bf (fun c => mx (fun q => F (4 * c + q)) 4) 1000 c))), some (.int (nI (c + 1))), none, none] rfl ?_
      have e1 : bf (fun c => mx (fun q => F (4 * c + q)) 4) 1000 (c + 1) = bf (fun c => mx (fun q => F (4 * c + q)) 4) 1000 c := if_neg c200
      have e2 : bb (fun c => mx (fun q => F (4 * c + q)) 4) 1000 (c + 1) = bb (fun c => mx (fun q => F (4 * c + q)) 4) 1000 c := if_neg c200
      have hx := ih (c + 1) (by omega)
      rw [e1, e2] at hx
      exact hx
    · replace c200 : ¬ (bf (fun c => mx (fun q => F (4 * c + q)) 4) 1000 c) ≤ (mx (fun q => F (4 * c + q)) 4) := fun q__ => c200 ((nI_leI (a := (bf (fun c => mx (fun q => F (4 * c + q)) 4) 1000 c)) (b := (mx (fun q => F (4 * c + q)) 4)) (by omega) (by omega)).mpr q__)
      replace c200 : mx (fun q => F (4 * c + q)) 4 < bf (fun c => mx (fun q => F (4 * c + q)) 4) 1000 c := by omega
      refine r_iload 205 rfl dX10_sniff_203 rfl ?_
      refine r_goto 209 dX10_sniff_205 rfl ?_
      refine r_istore_n 210 rfl 2 [some (.ref 37), some (.int (nI x)), some (.int (nI c)), some (.int (nI (bf (fun c => mx (fun q => F (4 * c + q)) 4) 1000 c))), some (.int (nI c)), some (.int (nI (mx (fun q => F (4 * c + q)) 4))), none] dX10_sniff_209 rfl (by decide) rfl ?_
      refine r_iload 212 rfl dX10_sniff_210 rfl ?_
      refine r_iload_n 213 rfl 3 dX10_sniff_212 rfl rfl ?_
      refine r_icmp_ge 216 221 rfl dX10_sniff_213 rfl (fun q__ => absurd q__ (fun q__ => absurd ((nI_leI (a := (bf (fun c => mx (fun q => F (4 * c + q)) 4) 1000 c)) (b := (mx (fun q => F (4 * c + q)) 4)) (by omega) (by omega)).mp q__) (by omega))) (fun _ => ?_)
      refine r_iload 218 rfl dX10_sniff_216 rfl ?_
      refine r_goto 222 dX10_sniff_218 rfl ?_
      refine r_istore_n 223 rfl 3 [some (.ref 37), some (.int (nI x)), some (.int (nI c)), some (.int (nI (mx (fun q => F (4 * c + q)) 4))), some (.int (nI c)), some (.int (nI (mx (fun q => F (4 * c + q)) 4))), none] dX10_sniff_222 rfl (by decide) rfl ?_
      refine r_iinc 226 rfl (nI (c + 1)) [some (.ref 37), some (.int (nI x)), some (.int (nI c)), some (.int (nI (mx (fun q => F (4 * c + q)) 4))), some (.int (nI (c + 1))), some (.int (nI (mx (fun q => F (4 * c + q)) 4))), none] dX10_sniff_223 rfl (nI_1 _) (by decide) rfl ?_
      refine r_goto 132 dX10_sniff_226 rfl ?_
      refine AW.drop 5 [some (.ref 37), some (.int (nI x)), some (.int (nI c)), some (.int (nI (mx (fun q => F (4 * c + q)) 4))), some (.int (nI (c + 1))), none, none] rfl ?_
      have e1 : bf (fun c => mx (fun q => F (4 * c + q)) 4) 1000 (c + 1) = mx (fun q => F (4 * c + q)) 4 := if_pos c200
      have e2 : bb (fun c => mx (fun q => F (4 * c + q)) 4) 1000 (c + 1) = nI c := if_pos c200
      have hx := ih (c + 1) (by omega)
      rw [e1, e2] at hx
      exact hx

set_option maxHeartbeats 4000000 in
set_option maxRecDepth 20000 in
theorem c9_sniff_s0 {Q : am_P} {z : am_Z} {m : Nat → Nat → Int32} {n : Nat} (hfd : m 4 2 = nI 0) (k : Q (some (.int (-103))) (wd z m) n) : AW mX9_sniff Q 0 (am_ent (am_l mX9_sniff) [.ref 1]) [] (wd z m) n 0 0 := by
  show AW _ _ 0 [some (.ref 1)] [] _ _ 0 0
  refine r_aload_n 1 rfl 0 dX9_sniff_0 rfl rfl ?_
  refine q_V 4 0 0 rfl [] rfl dX9_sniff_1 cl_X9_sniff__X9_mayAsk (lk_X9_226 rfl) im_X9_mayAsk (ci := 9) rfl sl_X9__X9_mayAsk rfl (Nat.le_of_ble_eq_true rfl) (fun _ _ => Nat.le_of_ble_eq_true rfl) rfl rfl (Nat.le_of_ble_eq_true rfl) (Nat.le_of_ble_eq_true rfl) ?_
  refine c_mayAsk_f0 hfd (k_i ?_)
  refine r_if_ne 7 10 rfl dX9_sniff_4 rfl (fun q__ => absurd (by decide) q__) (fun _ => ?_)
  refine r_bipush 9 rfl (-103) dX9_sniff_7 (by decide) ?_
  refine r_ireturn rfl dX9_sniff_9 (Nat.le_of_ble_eq_true rfl) (Nat.le_of_ble_eq_true rfl) ?_
  exact k

set_option maxHeartbeats 4000000 in
set_option maxRecDepth 20000 in
theorem c9_sniff_s1 {Q : am_P} {z : am_Z} {m : Nat → Nat → Int32} {n : Nat} {a : Nat} (has : m 1 14 = nI a) (ha : a = 30) {fd : Nat} (hfd : m 4 2 = nI fd) (hf1 : 1 ≤ fd) (hf3 : fd ≤ 3) (k : Q (some (.int (-103))) (wd z m) n) : AW mX9_sniff Q 0 (am_ent (am_l mX9_sniff) [.ref 1]) [] (wd z m) n 0 0 := by
  show AW _ _ 0 [some (.ref 1)] [] _ _ 0 0
  refine r_aload_n 1 rfl 0 dX9_sniff_0 rfl rfl ?_
  refine q_V 4 0 0 rfl [] rfl dX9_sniff_1 cl_X9_sniff__X9_mayAsk (lk_X9_226 rfl) im_X9_mayAsk (ci := 9) rfl sl_X9__X9_mayAsk rfl (Nat.le_of_ble_eq_true rfl) (fun _ _ => Nat.le_of_ble_eq_true rfl) rfl rfl (Nat.le_of_ble_eq_true rfl) (Nat.le_of_ble_eq_true rfl) ?_
  refine c_mayAsk_f1 has ha hfd hf1 hf3 (k_i ?_)
  refine r_if_ne 7 10 rfl dX9_sniff_4 rfl (fun q__ => absurd (by decide) q__) (fun _ => ?_)
  refine r_bipush 9 rfl (-103) dX9_sniff_7 (by decide) ?_
  refine r_ireturn rfl dX9_sniff_9 (Nat.le_of_ble_eq_true rfl) (Nat.le_of_ble_eq_true rfl) ?_
  exact k

set_option maxHeartbeats 4000000 in
set_option maxRecDepth 20000 in
theorem c9_sniff_t {Q : am_P} {z : am_Z} {m : Nat → Nat → Int32} {n : Nat} {D : Nat → Nat → Nat} (hC : C9 z m D) (hf1 : 1 ≤ D 7 0) {nc : Nat → Nat} {np : Nat → Int32} {nn : Nat} (hnn : m 7 8 = nI nn) (hn8 : nn ≤ 8) (hnc : ∀ j, j < nn → m 12 j = nI (nc j) ∧ nc j < 8) (hnp : ∀ j, j < nn → m 13 j = np j){a : Nat} (has : m 1 14 = nI a) (ha : a < 30) (k : ∀ m', ag [29, 30, 31, 32, 33, 36] (va_up m 1 (upd (m 1) 14 (nI (a + 1)))) m' → Q (some (.int (if cn (fit D nc np nn) 216 = 0 then -1 else bb (fun c => mx (fun q => tl (fit D nc np nn) (fD D) (c * 4 + q) 216) 4) 217 8))) (wd z m') n) : AW mX9_sniff Q 0 (am_ent (am_l mX9_sniff) [.ref 1]) [] (wd z m) n 0 0 := by
  show AW _ _ 0 [some (.ref 1)] [] _ _ 0 0
  obtain ⟨hg, hfd, hf3, hf0, hns, hn6, hsd, hsb, hwi, hw4, hfr, hr1, hhr, hh⟩ := id hC
  have hcn := cn_le (fit D nc np nn) 216
  refine r_aload_n 1 rfl 0 dX9_sniff_0 rfl rfl ?_
  refine q_V 4 0 0 rfl [] rfl dX9_sniff_1 cl_X9_sniff__X9_mayAsk (lk_X9_226 rfl) im_X9_mayAsk (ci := 9) rfl sl_X9__X9_mayAsk rfl (Nat.le_of_ble_eq_true rfl) (fun _ _ => Nat.le_of_ble_eq_true rfl) rfl rfl (Nat.le_of_ble_eq_true rfl) (Nat.le_of_ble_eq_true rfl) ?_
  refine c_mayAsk_t has ha hfd hf1 hf3 (k_i ?_)
  refine r_if_ne 7 10 rfl dX9_sniff_4 rfl (fun _ => ?_) (fun q__ => absurd q__ (by decide))
  refine r_aload_n 11 rfl 0 dX9_sniff_10 rfl rfl ?_
  refine r_dup 12 rfl dX9_sniff_11 rfl ?_
  refine r_getf (v := .int ((m 1) 14)) (k := 14) 15 rfl dX9_sniff_12 (gf_X9_229_9 rfl) rfl rfl ?_
  rw [show (m 1) 14 = nI a from has]
  refine r_iconst 16 rfl 1 dX9_sniff_15 rfl ?_
  refine r_iadd 17 rfl dX9_sniff_16 ?_
  rw [show (nI a) + 1 = nI (a + 1) from nI_add a 1]
  refine w_putf 20 rfl (k := 14) (va_up m 1 (upd (m 1) 14 (nI (a + 1)))) dX9_sniff_17 (pf_X9_229_9 rfl) (by decide) (by decide) rfl (Nat.le_of_ble_eq_true rfl) rfl ⟨rfl, rfl⟩ rfl ?_
  refine r_aload_n 21 rfl 0 dX9_sniff_20 rfl rfl ?_
  refine q_V 24 0 0 rfl [] rfl dX9_sniff_21 cl_X9_sniff__X9_settleNow (lk_X9_103 rfl) im_X9_settleNow (ci := 9) rfl sl_X9__X9_settleNow rfl (Nat.le_of_ble_eq_true rfl) (fun _ _ => Nat.le_of_ble_eq_true rfl) rfl rfl (Nat.le_of_ble_eq_true rfl) (Nat.le_of_ble_eq_true rfl) ?_
  refine c_settleNow (m := (va_up m 1 (upd (m 1) 14 (nI (a + 1))))) (D := D) hC (fun m1 hA hag => (k_v ?_))
  refine r_aload_n 25 rfl 0 dX9_sniff_24 rfl rfl ?_
  refine q_V 28 0 0 rfl [] rfl dX9_sniff_25 cl_X9_sniff__X9_tallyFindings (lk_X9_235 rfl) im_X9_tallyFindings (ci := 9) rfl sl_X9__X9_tallyFindings rfl (Nat.le_of_ble_eq_true rfl) (fun _ _ => Nat.le_of_ble_eq_true rfl) rfl rfl (Nat.le_of_ble_eq_true rfl) (Nat.le_of_ble_eq_true rfl) ?_
  refine c_tally (nc := nc) (np := np) (nn := nn) (C9_ag (m := (va_up m 1 (upd (m 1) 14 (nI (a + 1))))) (D := D) hC hag (by decide)) hA hf1 (by rw [hag 7 (by decide)]; exact hnn) hn8 (fun j hj => by rw [hag 12 (by decide)]; exact hnc j hj) (fun j hj => by rw [hag 13 (by decide)]; exact hnp j hj) (fun m2 h36 hag2 => (k_i ?_))
  have k := k m2 (ag_t (ag_w hag (by decide)) hag2 (by decide))
  refine r_if_ne 31 35 rfl dX9_sniff_28 rfl (fun c28 => ?_) (fun c28 => ?_)
  · replace c28 : ¬ (cn (fit D nc np nn) 216) = 0 := fun q__ => c28 ((nI_eq (a := (cn (fit D nc np nn) 216)) (b := 0) (by omega) (by omega)).mpr q__)
    rw [if_neg (by omega)] at k
    refine r_aload_n 36 rfl 0 dX9_sniff_35 rfl rfl ?_
    refine q_V 39 0 0 rfl [] rfl dX9_sniff_36 cl_X9_sniff__X9_cellOfFewestLeft (lk_X9_238 rfl) im_X9_cellOfFewestLeft (ci := 9) rfl sl_X9__X9_cellOfFewestLeft rfl (Nat.le_of_ble_eq_true rfl) (fun _ _ => Nat.le_of_ble_eq_true rfl) rfl rfl (Nat.le_of_ble_eq_true rfl) (Nat.le_of_ble_eq_true rfl) ?_
    refine c_fewest (F := (fun j => tl (fit D nc np nn) (fD D) j 216)) (fun j => tl_le _ _ _ _) h36 (k_i ?_)
    refine r_ireturn rfl dX9_sniff_39 (Nat.le_of_ble_eq_true rfl) (Nat.le_of_ble_eq_true rfl) ?_
    exact k
  · replace c28 : cn (fit D nc np nn) 216 = 0 := (nI_eq (a := (cn (fit D nc np nn) 216)) (b := 0) (by omega) (by omega)).mp c28
    rw [if_pos (by omega)] at k
    refine r_iconst 32 rfl (-1) dX9_sniff_31 rfl ?_
    refine r_goto 39 dX9_sniff_32 rfl ?_
    refine r_ireturn rfl dX9_sniff_39 (Nat.le_of_ble_eq_true rfl) (Nat.le_of_ble_eq_true rfl) ?_
    exact k

set_option maxHeartbeats 4000000 in
set_option maxRecDepth 20000 in
theorem c10_sniff_s0 {Q : am_P} {z : am_Z} {m : Nat → Nat → Int32} {n : Nat} (hfd : m 37 2 = nI 0) (k : Q (some (.int (-103))) (wd z m) n) : AW mX10_sniff Q 0 (am_ent (am_l mX10_sniff) [.ref 37]) [] (wd z m) n 0 0 := by
  show AW _ _ 0 [some (.ref 37), none, none, none, none, none, none] [] _ _ 0 0
  refine r_aload_n 1 rfl 0 dX10_sniff_0 rfl rfl ?_
  refine q_V 4 0 0 rfl [] rfl dX10_sniff_1 cl_X10_sniff__X10_lacks (lk_X10_109 rfl) im_X10_lacks (ci := 10) rfl sl_X10__X10_lacks rfl (Nat.le_of_ble_eq_true rfl) (fun _ _ => Nat.le_of_ble_eq_true rfl) rfl rfl (Nat.le_of_ble_eq_true rfl) (Nat.le_of_ble_eq_true rfl) ?_
  refine c_lacks_t hfd (k_i ?_)
  refine r_if_ne 7 16 rfl dX10_sniff_4 rfl (fun _ => ?_) (fun q__ => absurd q__ (by decide))
  refine r_bipush 18 rfl (-103) dX10_sniff_16 (by decide) ?_
  refine r_ireturn rfl dX10_sniff_18 (Nat.le_of_ble_eq_true rfl) (Nat.le_of_ble_eq_true rfl) ?_
  exact k

set_option maxHeartbeats 4000000 in
set_option maxRecDepth 20000 in
theorem c10_sniff_s1 {Q : am_P} {z : am_Z} {m : Nat → Nat → Int32} {n : Nat} {a : Nat} (has : m 37 19 = nI a) (ha : a = 30) {fd : Nat} (hfd : m 37 2 = nI fd) (hf1 : 1 ≤ fd) (hf3 : fd ≤ 3) (k : Q (some (.int (-103))) (wd z m) n) : AW mX10_sniff Q 0 (am_ent (am_l mX10_sniff) [.ref 37]) [] (wd z m) n 0 0 := by
  show AW _ _ 0 [some (.ref 37), none, none, none, none, none, none] [] _ _ 0 0
  refine r_aload_n 1 rfl 0 dX10_sniff_0 rfl rfl ?_
  refine q_V 4 0 0 rfl [] rfl dX10_sniff_1 cl_X10_sniff__X10_lacks (lk_X10_109 rfl) im_X10_lacks (ci := 10) rfl sl_X10__X10_lacks rfl (Nat.le_of_ble_eq_true rfl) (fun _ _ => Nat.le_of_ble_eq_true rfl) rfl rfl (Nat.le_of_ble_eq_true rfl) (Nat.le_of_ble_eq_true rfl) ?_
  refine c_lacks_f hfd hf1 hf3 (k_i ?_)
  refine r_if_ne 7 16 rfl dX10_sniff_4 rfl (fun q__ => absurd (by decide) q__) (fun _ => ?_)
  refine r_aload_n 8 rfl 0 dX10_sniff_7 rfl rfl ?_
  refine r_getf (v := .int ((m 37) 19)) (k := 19) 11 rfl dX10_sniff_8 (gf_X10_201_10 rfl) rfl rfl ?_
  rw [show (m 37) 19 = nI a from has]
  refine r_bipush 13 rfl 30 dX10_sniff_11 (by decide) ?_
  refine r_icmp_ne 16 19 rfl dX10_sniff_13 rfl (fun q__ => absurd ((nI_eq (a := a) (b := 30) (by omega) (by omega)).mpr (by omega)) q__) (fun _ => ?_)
  refine r_bipush 18 rfl (-103) dX10_sniff_16 (by decide) ?_
  refine r_ireturn rfl dX10_sniff_18 (Nat.le_of_ble_eq_true rfl) (Nat.le_of_ble_eq_true rfl) ?_
  exact k

set_option maxHeartbeats 4000000 in
set_option maxRecDepth 20000 in
theorem c10_sniff_t {Q : am_P} {z : am_Z} {m : Nat → Nat → Int32} {n : Nat} {D : Nat → Nat → Nat} (hC : C10 m D) (hn : D 7 1 ≤ 6) (hf1 : 1 ≤ D 7 0) {nc : Nat → Nat} {np : Nat → Int32} {nn : Nat} (hnn : m 37 18 = nI nn) (hn8 : nn ≤ 8) (hnc : ∀ j, j < nn → m 48 (2 * j) = nI (nc j) ∧ nc j < 8) (hnp : ∀ j, j < nn → m 48 (2 * j + 1) = np j){a : Nat} (has : m 37 19 = nI a) (ha : a < 30) (k : ∀ m', (∀ j, j < 6 * D 7 1 → m' 42 j = m 42 j) → ag [42, 43, 44, 45, 49] (va_up m 37 (upd (m 37) 19 (nI (a + 1)))) m' → Q (some (.int (if cn (fit D nc np nn) 216 = 0 then -1 else bb (fun c => mx (fun q => tl (fit D nc np nn) (gD D) (4 * c + q) 216) 4) 1000 8))) (wd z m') n) : AW mX10_sniff Q 0 (am_ent (am_l mX10_sniff) [.ref 37]) [] (wd z m) n 0 0 := by
  show AW _ _ 0 [some (.ref 37), none, none, none, none, none, none] [] _ _ 0 0
  obtain ⟨hg, hfd, hf3, hf0, hns, hn7, hmr, hwi, hw4, hfr, hr1, hhr, hh⟩ := id hC
  have hcn := cn_le (fit D nc np nn) 216
  refine r_aload_n 1 rfl 0 dX10_sniff_0 rfl rfl ?_
  refine q_V 4 0 0 rfl [] rfl dX10_sniff_1 cl_X10_sniff__X10_lacks (lk_X10_109 rfl) im_X10_lacks (ci := 10) rfl sl_X10__X10_lacks rfl (Nat.le_of_ble_eq_true rfl) (fun _ _ => Nat.le_of_ble_eq_true rfl) rfl rfl (Nat.le_of_ble_eq_true rfl) (Nat.le_of_ble_eq_true rfl) ?_
  refine c_lacks_f hfd hf1 hf3 (k_i ?_)
  refine r_if_ne 7 16 rfl dX10_sniff_4 rfl (fun q__ => absurd (by decide) q__) (fun _ => ?_)
  refine r_aload_n 8 rfl 0 dX10_sniff_7 rfl rfl ?_
  refine r_getf (v := .int ((m 37) 19)) (k := 19) 11 rfl dX10_sniff_8 (gf_X10_201_10 rfl) rfl rfl ?_
  rw [show (m 37) 19 = nI a from has]
  refine r_bipush 13 rfl 30 dX10_sniff_11 (by decide) ?_
  refine r_icmp_ne 16 19 rfl dX10_sniff_13 rfl (fun _ => ?_) (fun q__ => absurd q__ (fun q__ => absurd ((nI_eq (a := a) (b := 30) (by omega) (by omega)).mp q__) (by omega)))
  refine r_aload_n 20 rfl 0 dX10_sniff_19 rfl rfl ?_
  refine r_dup 21 rfl dX10_sniff_20 rfl ?_
  refine r_getf (v := .int ((m 37) 19)) (k := 19) 24 rfl dX10_sniff_21 (gf_X10_201_10 rfl) rfl rfl ?_
  rw [show (m 37) 19 = nI a from has]
  refine r_iconst 25 rfl 1 dX10_sniff_24 rfl ?_
  refine r_iadd 26 rfl dX10_sniff_25 ?_
  rw [show (nI a) + 1 = nI (a + 1) from nI_add a 1]
  refine w_putf 29 rfl (k := 19) (va_up m 37 (upd (m 37) 19 (nI (a + 1)))) dX10_sniff_26 (pf_X10_201_10 rfl) (by decide) (by decide) rfl (Nat.le_of_ble_eq_true rfl) rfl ⟨rfl, rfl⟩ rfl ?_
  refine r_iconst 30 rfl 0 dX10_sniff_29 rfl ?_
  refine r_istore_n 31 rfl 1 [some (.ref 37), some (.int 0), none, none, none, none, none] dX10_sniff_30 rfl (by decide) rfl ?_
  refine lp_sn0 (fun m1 h0 hag => ?_) 32 0 rfl (va_up m 37 (upd (m 37) 19 (nI (a + 1)))) (fun j hj => absurd hj (Nat.not_lt_zero j)) (ag_r _ _)
  refine r_iconst 51 rfl 0 dX10_sniff_50 rfl ?_
  refine r_istore_n 52 rfl 1 [some (.ref 37), some (.int 0), none, none, none, none, none] dX10_sniff_51 rfl (by decide) rfl ?_
  refine r_iconst 53 rfl 0 dX10_sniff_52 rfl ?_
  refine r_istore_n 54 rfl 2 [some (.ref 37), some (.int 0), some (.int 0), none, none, none, none] dX10_sniff_53 rfl (by decide) rfl ?_
  refine lp_sn2 (nc := nc) (np := np) (nn := nn) (C10_ag (m := (va_up m 37 (upd (m 37) 19 (nI (a + 1))))) (D := D) hC hag (by decide)) hn hf1 (by rw [hag 37 (by decide)]; exact hnn) hn8 (fun j hj => by rw [hag 48 (by decide)]; exact hnc j hj) (fun j hj => by rw [hag 48 (by decide)]; exact hnp j hj) (fun m2 h49 h42 hag2 => ?_) 216 0 rfl m1 (fun j hj => h0 j hj) (fun _ _ => rfl) (ag_r _ _)
  have k := k m2 (fun j hj => (h42 j hj).trans (by rw [hag 42 (by decide)]; rfl)) (ag_t (ag_w hag (by decide)) hag2 (by decide))
  by_cases hz0 : cn (fit D nc np nn) 216 = 0
  · rw [if_pos hz0] at k
    refine r_iconst 124 rfl (-1) dX10_sniff_123 rfl ?_
    refine r_istore_n 125 rfl 2 [some (.ref 37), some (.int (nI (cn (fit D nc np nn) 216))), some (.int (-1)), none, none, none, none] dX10_sniff_124 rfl (by decide) rfl ?_
    refine r_sipush 128 rfl 1000 dX10_sniff_125 (by decide) ?_
    refine r_istore_n 129 rfl 3 [some (.ref 37), some (.int (nI (cn (fit D nc np nn) 216))), some (.int (-1)), some (.int 1000), none, none, none] dX10_sniff_128 rfl (by decide) rfl ?_
    refine r_iconst 130 rfl 0 dX10_sniff_129 rfl ?_
    refine r_istore 132 rfl [some (.ref 37), some (.int (nI (cn (fit D nc np nn) 216))), some (.int (-1)), some (.int 1000), some (.int 0), none, none] dX10_sniff_130 (by decide) rfl ?_
    refine r_iload 134 rfl dX10_sniff_132 rfl ?_
    refine r_bipush 136 rfl 8 dX10_sniff_134 (by decide) ?_
    refine r_icmp_ge 139 229 rfl dX10_sniff_136 rfl (fun q__ => absurd q__ (by decide)) (fun _ => ?_)
    refine r_iload_n 140 rfl 1 dX10_sniff_139 rfl rfl ?_
    refine r_if_le 143 229 rfl dX10_sniff_140 rfl (fun _ => ?_) (fun q__ => absurd ((nI_leI (a := (cn (fit D nc np nn) 216)) (b := 0) (by omega) (by omega)).mpr (by omega)) q__)
    refine r_iload_n 230 rfl 2 dX10_sniff_229 rfl rfl ?_
    refine r_ireturn rfl dX10_sniff_230 (Nat.le_of_ble_eq_true rfl) (Nat.le_of_ble_eq_true rfl) ?_
    exact k
  · rw [if_neg hz0] at k
    refine r_iconst 124 rfl (-1) dX10_sniff_123 rfl ?_
    refine r_istore_n 125 rfl 2 [some (.ref 37), some (.int (nI (cn (fit D nc np nn) 216))), some (.int (-1)), none, none, none, none] dX10_sniff_124 rfl (by decide) rfl ?_
    refine r_sipush 128 rfl 1000 dX10_sniff_125 (by decide) ?_
    refine r_istore_n 129 rfl 3 [some (.ref 37), some (.int (nI (cn (fit D nc np nn) 216))), some (.int (-1)), some (.int 1000), none, none, none] dX10_sniff_128 rfl (by decide) rfl ?_
    refine r_iconst 130 rfl 0 dX10_sniff_129 rfl ?_
    refine r_istore 132 rfl [some (.ref 37), some (.int (nI (cn (fit D nc np nn) 216))), some (.int (-1)), some (.int 1000), some (.int 0), none, none] dX10_sniff_130 (by decide) rfl ?_
    exact lp_sn4 (F := (fun j => tl (fit D nc np nn) (gD D) j 216)) (fun j => tl_le _ _ _ _) h49 (by omega) hcn k 8 0 rfl

theorem sn_eq {D : Nat → Nat → Nat} (hp : ∀ s, s < D 7 1 → D 2 s < 3) (P : Nat → Bool) : bb (fun c => mx (fun q => tl P (gD D) (4 * c + q) 216) 4) 1000 8 = bb (fun c => mx (fun q => tl P (fD D) (c * 4 + q) 216) 4) 217 8 := by
  have hw : ∀ c, mx (fun q => tl P (gD D) (4 * c + q) 216) 4 = mx (fun q => tl P (fD D) (c * 4 + q) 216) 4 := fun c => by
    refine mx_sw ?_ ?_ ?_ ?_
    · rw [Nat.mul_comm c 4]; exact tl_sw P (fD D) (fD_lt hp) c 0 (by decide) 216
    · rw [Nat.mul_comm c 4]; exact tl_sw P (fD D) (fD_lt hp) c 1 (by decide) 216
    · rw [Nat.mul_comm c 4]; exact tl_sw P (fD D) (fD_lt hp) c 2 (by decide) 216
    · rw [Nat.mul_comm c 4]; exact tl_sw P (fD D) (fD_lt hp) c 3 (by decide) 216
  have h9 := mx_le (a := fun q => tl P (fD D) (0 * 4 + q) 216) (B := 216) (fun q => tl_le _ _ _ _) 4
  have h10 := mx_le (a := fun q => tl P (gD D) (4 * 0 + q) 216) (B := 216) (fun q => tl_le _ _ _ _) 4
  exact (bb_eq hw (show _ < 1000 by show mx (fun q => tl P (gD D) (4 * 0 + q) 216) 4 < 1000; omega) (show _ < 217 by show mx (fun q => tl P (fD D) (0 * 4 + q) 216) 4 < 217; omega) 7).2

set_option maxHeartbeats 4000000 in
set_option maxRecDepth 20000 in
theorem P_sniff {i : Nat} {z : am_Z} {m : Nat → Nat → Int32} {n : Nat} {D K : Nat → Nat → Nat} (hI : IV i z m n D K) (hi : i + 5 ≤ 2560)  : AW mX9_sniff (PR (i + 5) mX10_sniff [.ref 37]) 0 (am_ent (am_l mX9_sniff) [.ref 1]) [] (wd z m) n 0 0 := by
  obtain ⟨h9, h10, hnz, hpg, hop, hnw, hct, him⟩ := id hI
  obtain ⟨hg, hfd, hf3, hf0, hns, hn6, hsd, hsb, hwi, hw4, hfr, hr1, hhr, hh⟩ := id h9
  obtain ⟨gg, gfd, gf3, gf0, gns, gn7, gmr, gwi, gw4, gfr, gr1, ghr, gh⟩ := id h10
  obtain ⟨n1, n2⟩ := noses_of hnw
  have has := hct.2.2.1
  by_cases hf : D 7 0 = 0
  · exact c9_sniff_s0 (by rw [hfd, hf]) (PR_i (fun Q2 k => c10_sniff_s0 (by rw [gfd, hf]) (k _ _ _ _ _ (IV_mono hI (by omega) hi))))
  · by_cases ha : D 8 4 = 30
    · exact c9_sniff_s1 has.1 ha hfd (by omega) hf3 (PR_i (fun Q2 k => c10_sniff_s1 has.2.1 ha gfd (by omega) gf3 (k _ _ _ _ _ (IV_mono hI (by omega) hi))))
    · refine c9_sniff_t (nc := fun j => (m 12 j).toInt.toNat) (np := m 13) h9 (by omega) hnw.2.1 hnw.1.2.2.1 n1 (fun _ _ => rfl) has.1 (by omega) (fun m1 hag => PR_i (fun Q2 k => ?_))
      have e (x : Nat) (hx : x ∉ [1, 29, 30, 31, 32, 33, 36]) : m1 x = m x := by
        have hx1 : x ≠ 1 := fun q => hx (by rw [q]; decide)
        rw [hag x (fun q => hx (List.mem_cons_of_mem _ q)), va_up_ne _ _ hx1]
      refine c10_sniff_t (D := D) (nn := D 8 1) (nc := fun j => (m 12 j).toInt.toNat) (np := m 13) (C10_ag (m := m) h10 (S := [1, 29, 30, 31, 32, 33, 36]) e (by decide)) hn6 (by omega) (by rw [e 37 (by decide)]; exact hnw.2.2.1) hnw.1.2.2.1 (fun j hj => by rw [e 48 (by decide)]; exact n2 j hj) (fun j hj => by rw [e 48 (by decide)]; exact (hnw.1.2.2.2 j hj).2.1.symm) (a := D 8 4) (by rw [e 37 (by decide)]; exact has.2.1) (by omega) (fun m2 h42 hag2 => ?_)
      rw [sn_eq (fun s hs => (gmr s hs).2.2.1)]
      refine k _ _ _ _ _ (IV_mono (IV_ag2 (IV_ask hI (by omega)) (m' := m2) (fun x hx => ?_) (fun j hj => ?_) (fun j hj => ?_)) (by omega) hi)
      · have h1 : x ≠ 37 := fun q => hx (by rw [q]; decide)
        rw [hag2 x (fun q => hx (by simp only [List.mem_cons, List.not_mem_nil, or_false] at q ⊢; omega)), va_up_ne _ _ h1, va_up_ne _ _ h1]
        exact hag x (fun q => hx (by simp only [List.mem_cons, List.not_mem_nil, or_false] at q ⊢; omega))
      · rw [hag2 37 (by decide), va_up_self, va_up_self, e 37 (by decide)]
      · rw [h42 j hj, e 42 (by decide)]; rfl
