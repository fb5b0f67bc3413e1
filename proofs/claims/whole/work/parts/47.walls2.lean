def wR (o : Option Nat) (w : Nat) : Int32 := match o with
  | none => -1
  | some x => if w = 0 then nI (on x) else nI x

set_option maxHeartbeats 4000000 in
set_option maxRecDepth 20000 in
theorem lp_wg {Q : am_P} {z : am_Z} {m : Nat → Nat → Int32} {n : Nat} {D : Nat → Nat → Nat} {c p w b : Nat} {f4 f5 : Int32} (hb : b < 256) (h46 : ∀ j, j < 8 → m 46 j = nI (D 0 j)) (kx : ∀ m', (∀ j, j < 8 → m' 39 j = nI (wW D b 0 j)) → ag [39] m m' → AW mX10_walls Q 164 [some (.ref 37), some (.int (nI c)), some (.int (nI p)), some (.int (nI w)), some (.int f4), some (.int f5), some (.int (nI b)), none] [] (wd z m') n 0 0) : ∀ (d k : Nat), k + d = 8 → ∀ m', (∀ j, j < k → m' 39 j = nI (wW D b 0 j)) → ag [39] m m' → AW mX10_walls Q 122 [some (.ref 37), some (.int (nI c)), some (.int (nI p)), some (.int (nI w)), some (.int f4), some (.int f5), some (.int (nI b)), some (.int (nI k))] [] (wd z m') n 0 0 := by
  intro d
  induction d with
  | zero =>
    intro k hk m' h0 hag
    obtain rfl : k = 8 := by omega
    refine r_iload 124 rfl dX10_walls_122 rfl ?_
    refine r_bipush 126 rfl 8 dX10_walls_124 (by decide) ?_
    refine r_icmp_ge 129 164 rfl dX10_walls_126 rfl (fun _ => ?_) (fun q__ => absurd ((nI_leI (a := 8) (b := 8) (by omega) (by omega)).mpr (by omega)) q__)
    refine AW.drop 7 [some (.ref 37), some (.int (nI c)), some (.int (nI p)), some (.int (nI w)), some (.int f4), some (.int f5), some (.int (nI b)), none] rfl ?_
    exact kx m' h0 hag
  | succ d ih =>
    intro k hk m' h0 hag
    have e46 : m' 46 k = nI (D 0 k) := by rw [hag 46 (by decide)]; exact h46 k (by omega)
    refine r_iload 124 rfl dX10_walls_122 rfl ?_
    refine r_bipush 126 rfl 8 dX10_walls_124 (by decide) ?_
    refine r_icmp_ge 129 164 rfl dX10_walls_126 rfl (fun q__ => absurd q__ (fun q__ => absurd ((nI_leI (a := 8) (b := k) (by omega) (by omega)).mp q__) (by omega))) (fun _ => ?_)
    refine r_aload_n 130 rfl 0 dX10_walls_129 rfl rfl ?_
    refine r_getf (v := .ref 39) (k := 7) 133 rfl dX10_walls_130 (gf_X10_13_10 rfl) rfl rfl ?_
    refine r_iload 135 rfl dX10_walls_133 rfl ?_
    refine r_iload 137 rfl dX10_walls_135 rfl ?_
    refine r_iload 139 rfl dX10_walls_137 rfl ?_
    refine r_ishr 140 rfl dX10_walls_139 ?_
    refine r_iconst 141 rfl 1 dX10_walls_140 rfl ?_
    refine r_iand 142 rfl dX10_walls_141 ?_
    rw [show ((nI b) >>> ((nI k) &&& 31)) &&& 1 = nI (b / 2 ^ k % 2) from wl_bt b hb k (by omega)]
    refine r_iconst 143 rfl 1 dX10_walls_142 rfl ?_
    have hm2 : b / 2 ^ k % 2 < 2 := Nat.mod_lt _ (by decide)
    refine r_icmp_ne 146 150 rfl dX10_walls_143 rfl (fun c143 => ?_) (fun c143 => ?_)
    · replace c143 : ¬ b / 2 ^ k % 2 = 1 := fun q => c143 ((nI_eq (a := b / 2 ^ k % 2) (b := 1) (by omega) (by omega)).mpr q)
      refine r_aload_n 151 rfl 0 dX10_walls_150 rfl rfl ?_
      refine r_getf (v := .ref 46) (k := 16) 154 rfl dX10_walls_151 (gf_X10_34_10 rfl) rfl rfl ?_
      refine r_iload 156 rfl dX10_walls_154 rfl ?_
      refine r_iald (f := m' 46) 157 rfl k dX10_walls_156 rfl rfl (by omega) (by decide) ?_
      rw [show (m' 46) k = nI (D 0 k) from e46]
      refine w_iast 158 rfl k (va_up m' 39 (upd (m' 39) k (nI (D 0 k)))) dX10_walls_157 (by decide) (by decide) (fun _ => rfl) rfl (by omega) (by decide) rfl ?_
      refine r_iinc 161 rfl (nI (k + 1)) [some (.ref 37), some (.int (nI c)), some (.int (nI p)), some (.int (nI w)), some (.int f4), some (.int f5), some (.int (nI b)), some (.int (nI (k + 1)))] dX10_walls_158 rfl (nI_1 _) (by decide) rfl ?_
      refine r_goto 122 dX10_walls_161 rfl ?_
      refine ih (k + 1) (by omega) _ (fun j hj => ?_) (ag_up hag (by decide))
      rw [va_up_self]; unfold upd
      by_cases h : j = k
      · rw [if_pos h, h]; show _ = nI (if b / 2 ^ k % 2 = 1 then 1 else D 0 k); rw [if_neg c143]
      · rw [if_neg h]; exact h0 j (by omega)
    · replace c143 : b / 2 ^ k % 2 = 1 := (nI_eq (a := b / 2 ^ k % 2) (b := 1) (by omega) (by omega)).mp c143
      refine r_iconst 147 rfl 1 dX10_walls_146 rfl ?_
      refine r_goto 157 dX10_walls_147 rfl ?_
      refine w_iast 158 rfl k (va_up m' 39 (upd (m' 39) k 1)) dX10_walls_157 (by decide) (by decide) (fun _ => rfl) rfl (by omega) (by decide) rfl ?_
      refine r_iinc 161 rfl (nI (k + 1)) [some (.ref 37), some (.int (nI c)), some (.int (nI p)), some (.int (nI w)), some (.int f4), some (.int f5), some (.int (nI b)), some (.int (nI (k + 1)))] dX10_walls_158 rfl (nI_1 _) (by decide) rfl ?_
      refine r_goto 122 dX10_walls_161 rfl ?_
      refine ih (k + 1) (by omega) _ (fun j hj => ?_) (ag_up hag (by decide))
      rw [va_up_self]; unfold upd
      by_cases h : j = k
      · rw [if_pos h, h]; show _ = nI (if b / 2 ^ k % 2 = 1 then 1 else D 0 k); rw [if_pos c143]; rfl
      · rw [if_neg h]; exact h0 j (by omega)

theorem C10_wW {m m' : Nat → Nat → Int32} {D : Nat → Nat → Nat} {b : Nat} (hC : C10 m D) (hag : ag [39, 43, 44, 45] m m') (h39 : ∀ j, j < 8 → m' 39 j = nI (wW D b 0 j)) : C10 m' (wW D b) := by
  obtain ⟨hg, hfd, hf3, hf0, hns, hn7, hmr, hwi, hw4, hfr, hr1, hhr, hh⟩ := id hC
  refine ⟨fun j hj => ⟨h39 j hj, ?_⟩, ?_, hf3, hf0, ?_, hn7, MR_ag hmr (hag 42 (by decide)), ?_, hw4, ?_, hr1, ?_, hh⟩
  · show (if b / 2 ^ j % 2 = 1 then 1 else D 0 j) ≤ 2; have := (hg j hj).2; split <;> omega
  · rw [hag 37 (by decide)]; exact hfd
  · rw [hag 37 (by decide)]; exact hns
  · rw [hag 37 (by decide)]; exact hwi
  · rw [hag 37 (by decide)]; exact hfr
  · rw [hag 37 (by decide)]; exact hhr

set_option maxHeartbeats 4000000 in
set_option maxRecDepth 20000 in
theorem lp_few10 {Q : am_P} {z : am_Z} {m : Nat → Nat → Int32} {n : Nat} {D : Nat → Nat → Nat} (hC : C10 m D) {c p w : Nat} (hc : c < 8) (hp : p < 3) (hw : w ≤ 1) (h46 : ∀ j, j < 8 → m 46 j = nI (D 0 j)) (kx : ∀ m', ag [39, 43, 44, 45] m m' → AW mX10_walls Q 192 [some (.ref 37), none, none, some (.int (nI w)), none, some (.int (oI (wb D c p 256))), none, none] [] (wd z m') n 0 0) : ∀ (d b : Nat), b + d = 256 → ∀ m', ag [39, 43, 44, 45] m m' → AW mX10_walls Q 82 [some (.ref 37), some (.int (nI c)), some (.int (nI p)), some (.int (nI w)), some (.int (fr2 D c (D 7 1))), some (.int (oI (wb D c p b))), some (.int (nI b)), none] [] (wd z m') n 0 0 := by
  intro d
  induction d with
  | zero =>
    intro b hb m' hag
    obtain rfl : b = 256 := by omega
    refine r_iload 84 rfl dX10_walls_82 rfl ?_
    refine r_sipush 87 rfl 256 dX10_walls_84 (by decide) ?_
    refine r_icmp_ge 90 192 rfl dX10_walls_87 rfl (fun _ => ?_) (fun q__ => absurd ((nI_leI (a := 256) (b := 256) (by omega) (by omega)).mpr (by omega)) q__)
    refine AW.drop 1 [some (.ref 37), none, some (.int (nI p)), some (.int (nI w)), some (.int (fr2 D c (D 7 1))), some (.int (oI (wb D c p 256))), some (.int (nI 256)), none] rfl ?_
    refine AW.drop 2 [some (.ref 37), none, none, some (.int (nI w)), some (.int (fr2 D c (D 7 1))), some (.int (oI (wb D c p 256))), some (.int (nI 256)), none] rfl ?_
    refine AW.drop 4 [some (.ref 37), none, none, some (.int (nI w)), none, some (.int (oI (wb D c p 256))), some (.int (nI 256)), none] rfl ?_
    refine AW.drop 6 [some (.ref 37), none, none, some (.int (nI w)), none, some (.int (oI (wb D c p 256))), none, none] rfl ?_
    exact kx m' hag
  | succ d ih =>
    intro b hb m' hag
    have hb6 : b < 256 := by omega
    have hx := ih (b + 1) (by omega)
    rcases ho : wb D c p b with _ | x
    · show AW _ _ 82 [some (.ref 37), some (.int (nI c)), some (.int (nI p)), some (.int (nI w)), some (.int (fr2 D c (D 7 1))), some (.int (-1)), some (.int (nI b)), none] [] _ _ 0 0
      refine r_iload 84 rfl dX10_walls_82 rfl ?_
      refine r_sipush 87 rfl 256 dX10_walls_84 (by decide) ?_
      refine r_icmp_ge 90 192 rfl dX10_walls_87 rfl (fun q__ => absurd q__ (fun q__ => absurd ((nI_leI (a := 256) (b := b) (by omega) (by omega)).mp q__) (by omega))) (fun _ => ?_)
      refine r_iload 92 rfl dX10_walls_90 rfl ?_
      refine r_iload 94 rfl dX10_walls_92 rfl ?_
      refine r_iconst 95 rfl (-1) dX10_walls_94 rfl ?_
      refine r_ixor 96 rfl dX10_walls_95 ?_
      refine r_iand 97 rfl dX10_walls_96 ?_
      refine r_if_ne 100 186 rfl dX10_walls_97 rfl (fun c97 => ?_) (fun c97 => ?_)
      · refine r_iinc 189 rfl (nI (b + 1)) [some (.ref 37), some (.int (nI c)), some (.int (nI p)), some (.int (nI w)), some (.int (fr2 D c (D 7 1))), some (.int (-1)), some (.int (nI (b + 1))), none] dX10_walls_186 rfl (nI_1 _) (by decide) rfl ?_
        refine r_goto 82 dX10_walls_189 rfl ?_
        rw [show wb D c p (b + 1) = wb D c p b from wb_n1 (fun q => c97 (of_decide_eq_true q))] at hx
        rw [ho] at hx
        exact hx m' hag
      · refine r_iload 102 rfl dX10_walls_100 rfl ?_
        refine r_iconst 103 rfl (-1) dX10_walls_102 rfl ?_
        refine r_icmp_eq 106 119 rfl dX10_walls_103 rfl (fun _ => ?_) (fun q__ => absurd (by decide) q__)
        refine r_iconst 120 rfl 0 dX10_walls_119 rfl ?_
        refine r_istore 122 rfl [some (.ref 37), some (.int (nI c)), some (.int (nI p)), some (.int (nI w)), some (.int (fr2 D c (D 7 1))), some (.int (-1)), some (.int (nI b)), some (.int 0)] dX10_walls_120 (by decide) rfl ?_
        refine lp_wg (D := D) hb6 (fun j hj => by rw [hag 46 (by decide)]; exact h46 j hj) (fun m2 h39 hag2 => ?_) 8 0 rfl m' (fun j hj => absurd hj (Nat.not_lt_zero j)) (ag_r _ _)
        have hag3 := ag_t hag hag2 (by decide)
        have hCw := C10_wW hC hag3 h39
        refine r_aload_n 165 rfl 0 dX10_walls_164 rfl rfl ?_
        refine q_V 168 0 0 rfl [] rfl dX10_walls_165 cl_X10_walls__X10_layCells (lk_X10_149 rfl) im_X10_layCells (ci := 10) rfl sl_X10__X10_layCells rfl (Nat.le_of_ble_eq_true rfl) (fun _ _ => Nat.le_of_ble_eq_true rfl) rfl rfl (Nat.le_of_ble_eq_true rfl) (Nat.le_of_ble_eq_true rfl) ?_
        refine c_layC hCw (fun m3 hM hag4 => (k_v ?_))
        refine r_aload_n 169 rfl 0 dX10_walls_168 rfl rfl ?_
        refine r_iload_n 170 rfl 1 dX10_walls_169 rfl rfl ?_
        refine q_V 173 0 0 rfl [.int (nI c)] rfl dX10_walls_170 cl_X10_walls__X10_whose (lk_X10_152 rfl) im_X10_whose (ci := 10) rfl sl_X10__X10_whose rfl (Nat.le_of_ble_eq_true rfl) (fun _ _ => Nat.le_of_ble_eq_true rfl) rfl rfl (Nat.le_of_ble_eq_true rfl) (Nat.le_of_ble_eq_true rfl) ?_
        refine c_who (C10_ag hCw hag4 (by decide)) hM hc (k_i ?_)
        refine r_iload_n 174 rfl 2 dX10_walls_173 rfl rfl ?_
        refine r_icmp_ne 177 182 rfl dX10_walls_174 rfl (fun c174 => ?_) (fun c174 => ?_)
        · refine r_iload 184 rfl dX10_walls_182 rfl ?_
          refine r_istore 186 rfl [some (.ref 37), some (.int (nI c)), some (.int (nI p)), some (.int (nI w)), some (.int (fr2 D c (D 7 1))), some (.int (nI b)), some (.int (nI b)), none] dX10_walls_184 (by decide) rfl ?_
          refine r_iinc 189 rfl (nI (b + 1)) [some (.ref 37), some (.int (nI c)), some (.int (nI p)), some (.int (nI w)), some (.int (fr2 D c (D 7 1))), some (.int (nI b)), some (.int (nI (b + 1))), none] dX10_walls_186 rfl (nI_1 _) (by decide) rfl ?_
          refine r_goto 82 dX10_walls_189 rfl ?_
          rw [show wb D c p (b + 1) = some b from wb_y (decide_eq_true c97) (by rw [ho]; exact rfl) c174] at hx
          exact hx m3 (ag_t hag3 hag4 (by decide))
        · refine r_iload 179 rfl dX10_walls_177 rfl ?_
          refine r_goto 184 dX10_walls_179 rfl ?_
          refine r_istore 186 rfl [some (.ref 37), some (.int (nI c)), some (.int (nI p)), some (.int (nI w)), some (.int (fr2 D c (D 7 1))), some (.int (-1)), some (.int (nI b)), none] dX10_walls_184 (by decide) rfl ?_
          refine r_iinc 189 rfl (nI (b + 1)) [some (.ref 37), some (.int (nI c)), some (.int (nI p)), some (.int (nI w)), some (.int (fr2 D c (D 7 1))), some (.int (-1)), some (.int (nI (b + 1))), none] dX10_walls_186 rfl (nI_1 _) (by decide) rfl ?_
          refine r_goto 82 dX10_walls_189 rfl ?_
          rw [show wb D c p (b + 1) = wb D c p b from wb_n3 c174] at hx
          rw [ho] at hx
          exact hx m3 (ag_t hag3 hag4 (by decide))
    · have hxb := wb_lt b x ho
      have hl1 := on_n_le b 8
      have hl2 := on_n_le x 8
      have hl1 : on b ≤ 8 := hl1
      have hl2 : on x ≤ 8 := hl2
      show AW _ _ 82 [some (.ref 37), some (.int (nI c)), some (.int (nI p)), some (.int (nI w)), some (.int (fr2 D c (D 7 1))), some (.int (nI x)), some (.int (nI b)), none] [] _ _ 0 0
      refine r_iload 84 rfl dX10_walls_82 rfl ?_
      refine r_sipush 87 rfl 256 dX10_walls_84 (by decide) ?_
      refine r_icmp_ge 90 192 rfl dX10_walls_87 rfl (fun q__ => absurd q__ (fun q__ => absurd ((nI_leI (a := 256) (b := b) (by omega) (by omega)).mp q__) (by omega))) (fun _ => ?_)
      refine r_iload 92 rfl dX10_walls_90 rfl ?_
      refine r_iload 94 rfl dX10_walls_92 rfl ?_
      refine r_iconst 95 rfl (-1) dX10_walls_94 rfl ?_
      refine r_ixor 96 rfl dX10_walls_95 ?_
      refine r_iand 97 rfl dX10_walls_96 ?_
      refine r_if_ne 100 186 rfl dX10_walls_97 rfl (fun c97 => ?_) (fun c97 => ?_)
      · refine r_iinc 189 rfl (nI (b + 1)) [some (.ref 37), some (.int (nI c)), some (.int (nI p)), some (.int (nI w)), some (.int (fr2 D c (D 7 1))), some (.int (nI x)), some (.int (nI (b + 1))), none] dX10_walls_186 rfl (nI_1 _) (by decide) rfl ?_
        refine r_goto 82 dX10_walls_189 rfl ?_
        rw [show wb D c p (b + 1) = wb D c p b from wb_n1 (fun q => c97 (of_decide_eq_true q))] at hx
        rw [ho] at hx
        exact hx m' hag
      · refine r_iload 102 rfl dX10_walls_100 rfl ?_
        refine r_iconst 103 rfl (-1) dX10_walls_102 rfl ?_
        refine r_icmp_eq 106 119 rfl dX10_walls_103 rfl (fun q__ => absurd q__ (nI_m1 (by omega))) (fun _ => ?_)
        refine r_iload 108 rfl dX10_walls_106 rfl ?_
        refine q_S 111 0 0 rfl [.int (nI b)] rfl dX10_walls_108 cl_X10_walls__X10_ones (lk_X10_193 rfl) st_X10_ones (Nat.le_of_ble_eq_true rfl) (fun _ _ => Nat.le_of_ble_eq_true rfl) rfl rfl (Nat.le_of_ble_eq_true rfl) (Nat.le_of_ble_eq_true rfl) ?_
        refine c_ones hb6 (k_i ?_)
        refine r_iload 113 rfl dX10_walls_111 rfl ?_
        refine q_S 116 0 0 rfl [.int (nI x)] rfl dX10_walls_113 cl_X10_walls__X10_ones (lk_X10_193 rfl) st_X10_ones (Nat.le_of_ble_eq_true rfl) (fun _ _ => Nat.le_of_ble_eq_true rfl) rfl rfl (Nat.le_of_ble_eq_true rfl) (Nat.le_of_ble_eq_true rfl) ?_
        refine c_ones (b := x) (by omega) (k_i ?_)
        refine r_icmp_ge 119 186 rfl dX10_walls_116 rfl (fun c116 => ?_) (fun c116 => ?_)
        · replace c116 : on x ≤ on b := (nI_leI (a := (on x)) (b := (on b)) (by omega) (by omega)).mp c116
          refine r_iinc 189 rfl (nI (b + 1)) [some (.ref 37), some (.int (nI c)), some (.int (nI p)), some (.int (nI w)), some (.int (fr2 D c (D 7 1))), some (.int (nI x)), some (.int (nI (b + 1))), none] dX10_walls_186 rfl (nI_1 _) (by decide) rfl ?_
          refine r_goto 82 dX10_walls_189 rfl ?_
          rw [show wb D c p (b + 1) = wb D c p b from wb_n2 (fun q => by rw [ho] at q; have q := of_decide_eq_true (show decide (on b < on x) = true from q); omega)] at hx
          rw [ho] at hx
          exact hx m' hag
        · replace c116 : ¬ (on x) ≤ (on b) := fun q__ => c116 ((nI_leI (a := (on x)) (b := (on b)) (by omega) (by omega)).mpr q__)
          refine r_iconst 120 rfl 0 dX10_walls_119 rfl ?_
          refine r_istore 122 rfl [some (.ref 37), some (.int (nI c)), some (.int (nI p)), some (.int (nI w)), some (.int (fr2 D c (D 7 1))), some (.int (nI x)), some (.int (nI b)), some (.int 0)] dX10_walls_120 (by decide) rfl ?_
          refine lp_wg (D := D) hb6 (fun j hj => by rw [hag 46 (by decide)]; exact h46 j hj) (fun m2 h39 hag2 => ?_) 8 0 rfl m' (fun j hj => absurd hj (Nat.not_lt_zero j)) (ag_r _ _)
          have hag3 := ag_t hag hag2 (by decide)
          have hCw := C10_wW hC hag3 h39
          refine r_aload_n 165 rfl 0 dX10_walls_164 rfl rfl ?_
          refine q_V 168 0 0 rfl [] rfl dX10_walls_165 cl_X10_walls__X10_layCells (lk_X10_149 rfl) im_X10_layCells (ci := 10) rfl sl_X10__X10_layCells rfl (Nat.le_of_ble_eq_true rfl) (fun _ _ => Nat.le_of_ble_eq_true rfl) rfl rfl (Nat.le_of_ble_eq_true rfl) (Nat.le_of_ble_eq_true rfl) ?_
          refine c_layC hCw (fun m3 hM hag4 => (k_v ?_))
          refine r_aload_n 169 rfl 0 dX10_walls_168 rfl rfl ?_
          refine r_iload_n 170 rfl 1 dX10_walls_169 rfl rfl ?_
          refine q_V 173 0 0 rfl [.int (nI c)] rfl dX10_walls_170 cl_X10_walls__X10_whose (lk_X10_152 rfl) im_X10_whose (ci := 10) rfl sl_X10__X10_whose rfl (Nat.le_of_ble_eq_true rfl) (fun _ _ => Nat.le_of_ble_eq_true rfl) rfl rfl (Nat.le_of_ble_eq_true rfl) (Nat.le_of_ble_eq_true rfl) ?_
          refine c_who (C10_ag hCw hag4 (by decide)) hM hc (k_i ?_)
          refine r_iload_n 174 rfl 2 dX10_walls_173 rfl rfl ?_
          refine r_icmp_ne 177 182 rfl dX10_walls_174 rfl (fun c174 => ?_) (fun c174 => ?_)
          · refine r_iload 184 rfl dX10_walls_182 rfl ?_
            refine r_istore 186 rfl [some (.ref 37), some (.int (nI c)), some (.int (nI p)), some (.int (nI w)), some (.int (fr2 D c (D 7 1))), some (.int (nI b)), some (.int (nI b)), none] dX10_walls_184 (by decide) rfl ?_
            refine r_iinc 189 rfl (nI (b + 1)) [some (.ref 37), some (.int (nI c)), some (.int (nI p)), some (.int (nI w)), some (.int (fr2 D c (D 7 1))), some (.int (nI b)), some (.int (nI (b + 1))), none] dX10_walls_186 rfl (nI_1 _) (by decide) rfl ?_
            refine r_goto 82 dX10_walls_189 rfl ?_
            rw [show wb D c p (b + 1) = some b from wb_y (decide_eq_true c97) (by rw [ho]; exact decide_eq_true (show on b < on x by omega)) c174] at hx
            exact hx m3 (ag_t hag3 hag4 (by decide))
          · refine r_iload 179 rfl dX10_walls_177 rfl ?_
            refine r_goto 184 dX10_walls_179 rfl ?_
            refine r_istore 186 rfl [some (.ref 37), some (.int (nI c)), some (.int (nI p)), some (.int (nI w)), some (.int (fr2 D c (D 7 1))), some (.int (nI x)), some (.int (nI b)), none] dX10_walls_184 (by decide) rfl ?_
            refine r_iinc 189 rfl (nI (b + 1)) [some (.ref 37), some (.int (nI c)), some (.int (nI p)), some (.int (nI w)), some (.int (fr2 D c (D 7 1))), some (.int (nI x)), some (.int (nI (b + 1))), none] dX10_walls_186 rfl (nI_1 _) (by decide) rfl ?_
            refine r_goto 82 dX10_walls_189 rfl ?_
            rw [show wb D c p (b + 1) = wb D c p b from wb_n3 c174] at hx
            rw [ho] at hx
            exact hx m3 (ag_t hag3 hag4 (by decide))

set_option maxHeartbeats 4000000 in
set_option maxRecDepth 20000 in
theorem c9_walls_n {Q : am_P} {z : am_Z} {m : Nat → Nat → Int32} {n : Nat} {D : Nat → Nat → Nat} (hC : C9 z m D){x : Int32} (hx : D 7 0 = 0 ∨ x.toInt < 0 ∨ 8 ≤ x.toInt) {y u : Int32} (k : Q (some (.int (-101))) (wd z m) n) : AW mX9_walls Q 0 (am_ent (am_l mX9_walls) [.ref 1, .int x, .int y, .int u]) [] (wd z m) n 0 0 := by
  show AW _ _ 0 [some (.ref 1), some (.int x), some (.int y), some (.int u), none] [] _ _ 0 0
  obtain ⟨hg, hfd, hf3, hf0, hns, hn6, hsd, hsb, hwi, hw4, hfr, hr1, hhr, hh⟩ := id hC
  refine r_aload_n 1 rfl 0 dX9_walls_0 rfl rfl ?_
  refine r_iload_n 2 rfl 1 dX9_walls_1 rfl rfl ?_
  refine q_V 5 0 0 rfl [.int x] rfl dX9_walls_2 cl_X9_walls__X9_isCell (lk_X9_99 rfl) im_X9_isCell (ci := 9) rfl sl_X9__X9_isCell rfl (Nat.le_of_ble_eq_true rfl) (fun _ _ => Nat.le_of_ble_eq_true rfl) rfl rfl (Nat.le_of_ble_eq_true rfl) (Nat.le_of_ble_eq_true rfl) ?_
  refine c_isCell_f hfd hf3 hx (k_i ?_)
  refine r_if_ne 8 11 rfl dX9_walls_5 rfl (fun q__ => absurd (by decide) q__) (fun _ => ?_)
  refine r_bipush 10 rfl (-101) dX9_walls_8 (by decide) ?_
  refine r_ireturn rfl dX9_walls_10 (Nat.le_of_ble_eq_true rfl) (Nat.le_of_ble_eq_true rfl) ?_
  exact k

set_option maxHeartbeats 4000000 in
set_option maxRecDepth 20000 in
theorem c9_walls_o1 {Q : am_P} {z : am_Z} {m : Nat → Nat → Int32} {n : Nat} {D : Nat → Nat → Nat} (hC : C9 z m D){c : Nat} (hc : c < 8) (hf1 : 1 ≤ D 7 0){y : Int32} (hy : y.toInt < 0 ∨ 3 ≤ y.toInt) {u : Int32} (k : Q (some (.int (-102))) (wd z m) n) : AW mX9_walls Q 0 (am_ent (am_l mX9_walls) [.ref 1, .int (nI c), .int y, .int u]) [] (wd z m) n 0 0 := by
  show AW _ _ 0 [some (.ref 1), some (.int (nI c)), some (.int y), some (.int u), none] [] _ _ 0 0
  obtain ⟨hg, hfd, hf3, hf0, hns, hn6, hsd, hsb, hwi, hw4, hfr, hr1, hhr, hh⟩ := id hC
  refine r_aload_n 1 rfl 0 dX9_walls_0 rfl rfl ?_
  refine r_iload_n 2 rfl 1 dX9_walls_1 rfl rfl ?_
  refine q_V 5 0 0 rfl [.int (nI c)] rfl dX9_walls_2 cl_X9_walls__X9_isCell (lk_X9_99 rfl) im_X9_isCell (ci := 9) rfl sl_X9__X9_isCell rfl (Nat.le_of_ble_eq_true rfl) (fun _ _ => Nat.le_of_ble_eq_true rfl) rfl rfl (Nat.le_of_ble_eq_true rfl) (Nat.le_of_ble_eq_true rfl) ?_
  refine c_isCell_t hc hfd hf1 hf3 (k_i ?_)
  refine r_if_ne 8 11 rfl dX9_walls_5 rfl (fun _ => ?_) (fun q__ => absurd q__ (by decide))
  refine r_iload_n 12 rfl 2 dX9_walls_11 rfl rfl ?_
  refine q_S 15 0 0 rfl [.int y] rfl dX9_walls_12 cl_X9_walls__X9_isParish (lk_X9_113 rfl) st_X9_isParish (Nat.le_of_ble_eq_true rfl) (fun _ _ => Nat.le_of_ble_eq_true rfl) rfl rfl (Nat.le_of_ble_eq_true rfl) (Nat.le_of_ble_eq_true rfl) ?_
  refine c_isPar_f hy (k_i ?_)
  refine r_if_eq 18 25 rfl dX9_walls_15 rfl (fun _ => ?_) (fun q__ => absurd (by decide) q__)
  refine r_bipush 27 rfl (-102) dX9_walls_25 (by decide) ?_
  refine r_ireturn rfl dX9_walls_27 (Nat.le_of_ble_eq_true rfl) (Nat.le_of_ble_eq_true rfl) ?_
  exact k

set_option maxHeartbeats 4000000 in
set_option maxRecDepth 20000 in
theorem c9_walls_o2 {Q : am_P} {z : am_Z} {m : Nat → Nat → Int32} {n : Nat} {D : Nat → Nat → Nat} (hC : C9 z m D){c : Nat} (hc : c < 8) (hf1 : 1 ≤ D 7 0){p : Nat} (hp : p < 3) {u : Int32} (hu : u.toInt < 0 ∨ 2 ≤ u.toInt) (k : Q (some (.int (-102))) (wd z m) n) : AW mX9_walls Q 0 (am_ent (am_l mX9_walls) [.ref 1, .int (nI c), .int (nI p), .int u]) [] (wd z m) n 0 0 := by
  show AW _ _ 0 [some (.ref 1), some (.int (nI c)), some (.int (nI p)), some (.int u), none] [] _ _ 0 0
  obtain ⟨hg, hfd, hf3, hf0, hns, hn6, hsd, hsb, hwi, hw4, hfr, hr1, hhr, hh⟩ := id hC
  refine r_aload_n 1 rfl 0 dX9_walls_0 rfl rfl ?_
  refine r_iload_n 2 rfl 1 dX9_walls_1 rfl rfl ?_
  refine q_V 5 0 0 rfl [.int (nI c)] rfl dX9_walls_2 cl_X9_walls__X9_isCell (lk_X9_99 rfl) im_X9_isCell (ci := 9) rfl sl_X9__X9_isCell rfl (Nat.le_of_ble_eq_true rfl) (fun _ _ => Nat.le_of_ble_eq_true rfl) rfl rfl (Nat.le_of_ble_eq_true rfl) (Nat.le_of_ble_eq_true rfl) ?_
  refine c_isCell_t hc hfd hf1 hf3 (k_i ?_)
  refine r_if_ne 8 11 rfl dX9_walls_5 rfl (fun _ => ?_) (fun q__ => absurd q__ (by decide))
  refine r_iload_n 12 rfl 2 dX9_walls_11 rfl rfl ?_
  refine q_S 15 0 0 rfl [.int (nI p)] rfl dX9_walls_12 cl_X9_walls__X9_isParish (lk_X9_113 rfl) st_X9_isParish (Nat.le_of_ble_eq_true rfl) (fun _ _ => Nat.le_of_ble_eq_true rfl) rfl rfl (Nat.le_of_ble_eq_true rfl) (Nat.le_of_ble_eq_true rfl) ?_
  refine c_isPar_t hp (k_i ?_)
  refine r_if_eq 18 25 rfl dX9_walls_15 rfl (fun q__ => absurd q__ (by decide)) (fun _ => ?_)
  refine r_iload_n 19 rfl 3 dX9_walls_18 rfl rfl ?_
  refine q_S 22 0 0 rfl [.int u] rfl dX9_walls_19 cl_X9_walls__X9_isZeroOrOne (lk_X9_195 rfl) st_X9_isZeroOrOne (Nat.le_of_ble_eq_true rfl) (fun _ _ => Nat.le_of_ble_eq_true rfl) rfl rfl (Nat.le_of_ble_eq_true rfl) (Nat.le_of_ble_eq_true rfl) ?_
  refine c_is01_f (by omega) (k_i ?_)
  refine r_if_ne 25 28 rfl dX9_walls_22 rfl (fun q__ => absurd (by decide) q__) (fun _ => ?_)
  refine r_bipush 27 rfl (-102) dX9_walls_25 (by decide) ?_
  refine r_ireturn rfl dX9_walls_27 (Nat.le_of_ble_eq_true rfl) (Nat.le_of_ble_eq_true rfl) ?_
  exact k

set_option maxHeartbeats 4000000 in
set_option maxRecDepth 20000 in
theorem c10_walls_n {Q : am_P} {z : am_Z} {m : Nat → Nat → Int32} {n : Nat} {D : Nat → Nat → Nat} (hC : C10 m D){x : Int32} (hx : D 7 0 = 0 ∨ x.toInt < 0 ∨ 8 ≤ x.toInt) {y u : Int32} (k : Q (some (.int (-101))) (wd z m) n) : AW mX10_walls Q 0 (am_ent (am_l mX10_walls) [.ref 37, .int x, .int y, .int u]) [] (wd z m) n 0 0 := by
  show AW _ _ 0 [some (.ref 37), some (.int x), some (.int y), some (.int u), none, none, none, none] [] _ _ 0 0
  obtain ⟨hg, hfd, hf3, hf0, hns, hn7, hmr, hwi, hw4, hfr, hr1, hhr, hh⟩ := id hC
  refine r_aload_n 1 rfl 0 dX10_walls_0 rfl rfl ?_
  refine r_iload_n 2 rfl 1 dX10_walls_1 rfl rfl ?_
  refine q_V 5 0 0 rfl [.int x] rfl dX10_walls_2 cl_X10_walls__X10_isCell (lk_X10_119 rfl) im_X10_isCell (ci := 10) rfl sl_X10__X10_isCell rfl (Nat.le_of_ble_eq_true rfl) (fun _ _ => Nat.le_of_ble_eq_true rfl) rfl rfl (Nat.le_of_ble_eq_true rfl) (Nat.le_of_ble_eq_true rfl) ?_
  refine c10_isCell_f hfd hf3 hx (k_i ?_)
  refine r_if_ne 8 11 rfl dX10_walls_5 rfl (fun q__ => absurd (by decide) q__) (fun _ => ?_)
  refine r_bipush 10 rfl (-101) dX10_walls_8 (by decide) ?_
  refine r_ireturn rfl dX10_walls_10 (Nat.le_of_ble_eq_true rfl) (Nat.le_of_ble_eq_true rfl) ?_
  exact k

set_option maxHeartbeats 4000000 in
set_option maxRecDepth 20000 in
theorem c10_walls_o1 {Q : am_P} {z : am_Z} {m : Nat → Nat → Int32} {n : Nat} {D : Nat → Nat → Nat} (hC : C10 m D){c : Nat} (hc : c < 8) (hf1 : 1 ≤ D 7 0){y : Int32} (hy : y.toInt < 0 ∨ 3 ≤ y.toInt) {u : Int32} (k : Q (some (.int (-102))) (wd z m) n) : AW mX10_walls Q 0 (am_ent (am_l mX10_walls) [.ref 37, .int (nI c), .int y, .int u]) [] (wd z m) n 0 0 := by
  show AW _ _ 0 [some (.ref 37), some (.int (nI c)), some (.int y), some (.int u), none, none, none, none] [] _ _ 0 0
  obtain ⟨hg, hfd, hf3, hf0, hns, hn7, hmr, hwi, hw4, hfr, hr1, hhr, hh⟩ := id hC
  refine r_aload_n 1 rfl 0 dX10_walls_0 rfl rfl ?_
  refine r_iload_n 2 rfl 1 dX10_walls_1 rfl rfl ?_
  refine q_V 5 0 0 rfl [.int (nI c)] rfl dX10_walls_2 cl_X10_walls__X10_isCell (lk_X10_119 rfl) im_X10_isCell (ci := 10) rfl sl_X10__X10_isCell rfl (Nat.le_of_ble_eq_true rfl) (fun _ _ => Nat.le_of_ble_eq_true rfl) rfl rfl (Nat.le_of_ble_eq_true rfl) (Nat.le_of_ble_eq_true rfl) ?_
  refine c10_isCell_t hc hfd hf1 hf3 (k_i ?_)
  refine r_if_ne 8 11 rfl dX10_walls_5 rfl (fun _ => ?_) (fun q__ => absurd q__ (by decide))
  refine r_iload_n 12 rfl 2 dX10_walls_11 rfl rfl ?_
  refine r_i2l 13 rfl dX10_walls_12 ?_
  refine r_lconst 14 rfl 0 dX10_walls_13 rfl ?_
  refine r_ldc2 17 rfl 2 dX10_walls_14 (cn_X10_115 rfl) ?_
  refine q_S 20 0 0 rfl [.long y.toInt64, .long 0, .long 2] rfl dX10_walls_17 cl_X10_walls__X10_in (lk_X10_64 rfl) st_X10_in (Nat.le_of_ble_eq_true rfl) (fun _ _ => Nat.le_of_ble_eq_true rfl) rfl rfl (Nat.le_of_ble_eq_true rfl) (Nat.le_of_ble_eq_true rfl) ?_
  refine c_in_f (show y.toInt64.toInt < (0 : Int) ∨ (2 : Int) < y.toInt64.toInt by rw [Int32.toInt_toInt64]; omega) (k_i ?_)
  refine r_if_eq 23 33 rfl dX10_walls_20 rfl (fun _ => ?_) (fun q__ => absurd (by decide) q__)
  refine r_bipush 35 rfl (-102) dX10_walls_33 (by decide) ?_
  refine r_ireturn rfl dX10_walls_35 (Nat.le_of_ble_eq_true rfl) (Nat.le_of_ble_eq_true rfl) ?_
  exact k

set_option maxHeartbeats 4000000 in
set_option maxRecDepth 20000 in
theorem c10_walls_o2 {Q : am_P} {z : am_Z} {m : Nat → Nat → Int32} {n : Nat} {D : Nat → Nat → Nat} (hC : C10 m D){c : Nat} (hc : c < 8) (hf1 : 1 ≤ D 7 0){p : Nat} (hp : p < 3) {u : Int32} (hu : u.toInt < 0 ∨ 2 ≤ u.toInt) (k : Q (some (.int (-102))) (wd z m) n) : AW mX10_walls Q 0 (am_ent (am_l mX10_walls) [.ref 37, .int (nI c), .int (nI p), .int u]) [] (wd z m) n 0 0 := by
  show AW _ _ 0 [some (.ref 37), some (.int (nI c)), some (.int (nI p)), some (.int u), none, none, none, none] [] _ _ 0 0
  obtain ⟨hg, hfd, hf3, hf0, hns, hn7, hmr, hwi, hw4, hfr, hr1, hhr, hh⟩ := id hC
  refine r_aload_n 1 rfl 0 dX10_walls_0 rfl rfl ?_
  refine r_iload_n 2 rfl 1 dX10_walls_1 rfl rfl ?_
  refine q_V 5 0 0 rfl [.int (nI c)] rfl dX10_walls_2 cl_X10_walls__X10_isCell (lk_X10_119 rfl) im_X10_isCell (ci := 10) rfl sl_X10__X10_isCell rfl (Nat.le_of_ble_eq_true rfl) (fun _ _ => Nat.le_of_ble_eq_true rfl) rfl rfl (Nat.le_of_ble_eq_true rfl) (Nat.le_of_ble_eq_true rfl) ?_
  refine c10_isCell_t hc hfd hf1 hf3 (k_i ?_)
  refine r_if_ne 8 11 rfl dX10_walls_5 rfl (fun _ => ?_) (fun q__ => absurd q__ (by decide))
  refine r_iload_n 12 rfl 2 dX10_walls_11 rfl rfl ?_
  refine r_i2l 13 rfl dX10_walls_12 ?_
  refine r_lconst 14 rfl 0 dX10_walls_13 rfl ?_
  refine r_ldc2 17 rfl 2 dX10_walls_14 (cn_X10_115 rfl) ?_
  refine q_S 20 0 0 rfl [.long ((nI p).toInt64), .long 0, .long 2] rfl dX10_walls_17 cl_X10_walls__X10_in (lk_X10_64 rfl) st_X10_in (Nat.le_of_ble_eq_true rfl) (fun _ _ => Nat.le_of_ble_eq_true rfl) rfl rfl (Nat.le_of_ble_eq_true rfl) (Nat.le_of_ble_eq_true rfl) ?_
  refine c_in_t (show (0 : Int) ≤ (nI p).toInt64.toInt by rw [Int32.toInt_toInt64, nI_toInt (by omega)]; omega) (show (nI p).toInt64.toInt ≤ (2 : Int) by rw [Int32.toInt_toInt64, nI_toInt (by omega)]; omega) (k_i ?_)
  refine r_if_eq 23 33 rfl dX10_walls_20 rfl (fun q__ => absurd q__ (by decide)) (fun _ => ?_)
  refine r_iload_n 24 rfl 3 dX10_walls_23 rfl rfl ?_
  refine r_i2l 25 rfl dX10_walls_24 ?_
  refine r_lconst 26 rfl 0 dX10_walls_25 rfl ?_
  refine r_lconst 27 rfl 1 dX10_walls_26 rfl ?_
  refine q_S 30 0 0 rfl [.long u.toInt64, .long 0, .long 1] rfl dX10_walls_27 cl_X10_walls__X10_in (lk_X10_64 rfl) st_X10_in (Nat.le_of_ble_eq_true rfl) (fun _ _ => Nat.le_of_ble_eq_true rfl) rfl rfl (Nat.le_of_ble_eq_true rfl) (Nat.le_of_ble_eq_true rfl) ?_
  refine c_in_f (show u.toInt64.toInt < (0 : Int) ∨ (1 : Int) < u.toInt64.toInt by rw [Int32.toInt_toInt64]; omega) (k_i ?_)
  refine r_if_ne 33 36 rfl dX10_walls_30 rfl (fun q__ => absurd (by decide) q__) (fun _ => ?_)
  refine r_bipush 35 rfl (-102) dX10_walls_33 (by decide) ?_
  refine r_ireturn rfl dX10_walls_35 (Nat.le_of_ble_eq_true rfl) (Nat.le_of_ble_eq_true rfl) ?_
  exact k

set_option maxHeartbeats 4000000 in
set_option maxRecDepth 20000 in
theorem c9_walls_s {Q : am_P} {z : am_Z} {m : Nat → Nat → Int32} {n : Nat} {D : Nat → Nat → Nat} (hC : C9 z m D){c p w : Nat} (hc : c < 8) (hf1 : 1 ≤ D 7 0) (hp : p < 3) (hw : w ≤ 1){a : Nat} (has : m 1 13 = nI a) (ha : a = 20) (k : Q (some (.int (-103))) (wd z m) n) : AW mX9_walls Q 0 (am_ent (am_l mX9_walls) [.ref 1, .int (nI c), .int (nI p), .int (nI w)]) [] (wd z m) n 0 0 := by
  show AW _ _ 0 [some (.ref 1), some (.int (nI c)), some (.int (nI p)), some (.int (nI w)), none] [] _ _ 0 0
  obtain ⟨hg, hfd, hf3, hf0, hns, hn6, hsd, hsb, hwi, hw4, hfr, hr1, hhr, hh⟩ := id hC
  refine r_aload_n 1 rfl 0 dX9_walls_0 rfl rfl ?_
  refine r_iload_n 2 rfl 1 dX9_walls_1 rfl rfl ?_
  refine q_V 5 0 0 rfl [.int (nI c)] rfl dX9_walls_2 cl_X9_walls__X9_isCell (lk_X9_99 rfl) im_X9_isCell (ci := 9) rfl sl_X9__X9_isCell rfl (Nat.le_of_ble_eq_true rfl) (fun _ _ => Nat.le_of_ble_eq_true rfl) rfl rfl (Nat.le_of_ble_eq_true rfl) (Nat.le_of_ble_eq_true rfl) ?_
  refine c_isCell_t hc hfd hf1 hf3 (k_i ?_)
  refine r_if_ne 8 11 rfl dX9_walls_5 rfl (fun _ => ?_) (fun q__ => absurd q__ (by decide))
  refine r_iload_n 12 rfl 2 dX9_walls_11 rfl rfl ?_
  refine q_S 15 0 0 rfl [.int (nI p)] rfl dX9_walls_12 cl_X9_walls__X9_isParish (lk_X9_113 rfl) st_X9_isParish (Nat.le_of_ble_eq_true rfl) (fun _ _ => Nat.le_of_ble_eq_true rfl) rfl rfl (Nat.le_of_ble_eq_true rfl) (Nat.le_of_ble_eq_true rfl) ?_
  refine c_isPar_t hp (k_i ?_)
  refine r_if_eq 18 25 rfl dX9_walls_15 rfl (fun q__ => absurd q__ (by decide)) (fun _ => ?_)
  refine r_iload_n 19 rfl 3 dX9_walls_18 rfl rfl ?_
  refine q_S 22 0 0 rfl [.int (nI w)] rfl dX9_walls_19 cl_X9_walls__X9_isZeroOrOne (lk_X9_195 rfl) st_X9_isZeroOrOne (Nat.le_of_ble_eq_true rfl) (fun _ _ => Nat.le_of_ble_eq_true rfl) rfl rfl (Nat.le_of_ble_eq_true rfl) (Nat.le_of_ble_eq_true rfl) ?_
  refine c_is01_t hw (k_i ?_)
  refine r_if_ne 25 28 rfl dX9_walls_22 rfl (fun _ => ?_) (fun q__ => absurd q__ (by decide))
  refine r_aload_n 29 rfl 0 dX9_walls_28 rfl rfl ?_
  refine r_getf (v := .int ((m 1) 13)) (k := 13) 32 rfl dX9_walls_29 (gf_X9_202_9 rfl) rfl rfl ?_
  rw [show (m 1) 13 = nI a from has]
  refine r_bipush 34 rfl 20 dX9_walls_32 (by decide) ?_
  refine r_icmp_lt 37 40 rfl dX9_walls_34 rfl (fun q__ => absurd q__ (fun q__ => absurd ((nI_ltI (a := a) (b := 20) (by omega) (by omega)).mp q__) (by omega))) (fun _ => ?_)
  refine r_bipush 39 rfl (-103) dX9_walls_37 (by decide) ?_
  refine r_ireturn rfl dX9_walls_39 (Nat.le_of_ble_eq_true rfl) (Nat.le_of_ble_eq_true rfl) ?_
  exact k

set_option maxHeartbeats 4000000 in
set_option maxRecDepth 20000 in
theorem c9_walls_t {Q : am_P} {z : am_Z} {m : Nat → Nat → Int32} {n : Nat} {D : Nat → Nat → Nat} (hC : C9 z m D){c p w : Nat} (hc : c < 8) (hf1 : 1 ≤ D 7 0) (hp : p < 3) (hw : w ≤ 1){a : Nat} (has : m 1 13 = nI a) (ha : a < 20) (k : ∀ m', ag [29, 30, 31, 32] (va_up m 1 (upd (m 1) 13 (nI (a + 1)))) m' → Q (some (.int (wR (wb D c p 256) w))) (wd z m') n) : AW mX9_walls Q 0 (am_ent (am_l mX9_walls) [.ref 1, .int (nI c), .int (nI p), .int (nI w)]) [] (wd z m) n 0 0 := by
  show AW _ _ 0 [some (.ref 1), some (.int (nI c)), some (.int (nI p)), some (.int (nI w)), none] [] _ _ 0 0
  obtain ⟨hg, hfd, hf3, hf0, hns, hn6, hsd, hsb, hwi, hw4, hfr, hr1, hhr, hh⟩ := id hC
  refine r_aload_n 1 rfl 0 dX9_walls_0 rfl rfl ?_
  refine r_iload_n 2 rfl 1 dX9_walls_1 rfl rfl ?_
  refine q_V 5 0 0 rfl [.int (nI c)] rfl dX9_walls_2 cl_X9_walls__X9_isCell (lk_X9_99 rfl) im_X9_isCell (ci := 9) rfl sl_X9__X9_isCell rfl (Nat.le_of_ble_eq_true rfl) (fun _ _ => Nat.le_of_ble_eq_true rfl) rfl rfl (Nat.le_of_ble_eq_true rfl) (Nat.le_of_ble_eq_true rfl) ?_
  refine c_isCell_t hc hfd hf1 hf3 (k_i ?_)
  refine r_if_ne 8 11 rfl dX9_walls_5 rfl (fun _ => ?_) (fun q__ => absurd q__ (by decide))
  refine r_iload_n 12 rfl 2 dX9_walls_11 rfl rfl ?_
  refine q_S 15 0 0 rfl [.int (nI p)] rfl dX9_walls_12 cl_X9_walls__X9_isParish (lk_X9_113 rfl) st_X9_isParish (Nat.le_of_ble_eq_true rfl) (fun _ _ => Nat.le_of_ble_eq_true rfl) rfl rfl (Nat.le_of_ble_eq_true rfl) (Nat.le_of_ble_eq_true rfl) ?_
  refine c_isPar_t hp (k_i ?_)
  refine r_if_eq 18 25 rfl dX9_walls_15 rfl (fun q__ => absurd q__ (by decide)) (fun _ => ?_)
  refine r_iload_n 19 rfl 3 dX9_walls_18 rfl rfl ?_
  refine q_S 22 0 0 rfl [.int (nI w)] rfl dX9_walls_19 cl_X9_walls__X9_isZeroOrOne (lk_X9_195 rfl) st_X9_isZeroOrOne (Nat.le_of_ble_eq_true rfl) (fun _ _ => Nat.le_of_ble_eq_true rfl) rfl rfl (Nat.le_of_ble_eq_true rfl) (Nat.le_of_ble_eq_true rfl) ?_
  refine c_is01_t hw (k_i ?_)
  refine r_if_ne 25 28 rfl dX9_walls_22 rfl (fun _ => ?_) (fun q__ => absurd q__ (by decide))
  refine r_aload_n 29 rfl 0 dX9_walls_28 rfl rfl ?_
  refine r_getf (v := .int ((m 1) 13)) (k := 13) 32 rfl dX9_walls_29 (gf_X9_202_9 rfl) rfl rfl ?_
  rw [show (m 1) 13 = nI a from has]
  refine r_bipush 34 rfl 20 dX9_walls_32 (by decide) ?_
  refine r_icmp_lt 37 40 rfl dX9_walls_34 rfl (fun _ => ?_) (fun q__ => absurd ((nI_ltI (a := a) (b := 20) (by omega) (by omega)).mpr (by omega)) q__)
  refine r_aload_n 41 rfl 0 dX9_walls_40 rfl rfl ?_
  refine r_dup 42 rfl dX9_walls_41 rfl ?_
  refine r_getf (v := .int ((m 1) 13)) (k := 13) 45 rfl dX9_walls_42 (gf_X9_202_9 rfl) rfl rfl ?_
  rw [show (m 1) 13 = nI a from has]
  refine r_iconst 46 rfl 1 dX9_walls_45 rfl ?_
  refine r_iadd 47 rfl dX9_walls_46 ?_
  rw [show (nI a) + 1 = nI (a + 1) from nI_add a 1]
  refine w_putf 50 rfl (k := 13) (va_up m 1 (upd (m 1) 13 (nI (a + 1)))) dX9_walls_47 (pf_X9_202_9 rfl) (by decide) (by decide) rfl (Nat.le_of_ble_eq_true rfl) rfl ⟨rfl, rfl⟩ rfl ?_
  refine r_aload_n 51 rfl 0 dX9_walls_50 rfl rfl ?_
  refine r_iload_n 52 rfl 1 dX9_walls_51 rfl rfl ?_
  refine r_iload_n 53 rfl 2 dX9_walls_52 rfl rfl ?_
  refine q_V 56 0 0 rfl [.int (nI c), .int (nI p)] rfl dX9_walls_53 cl_X9_walls__X9_fewestWalls (lk_X9_205 rfl) im_X9_fewestWalls (ci := 9) rfl sl_X9__X9_fewestWalls rfl (Nat.le_of_ble_eq_true rfl) (fun _ _ => Nat.le_of_ble_eq_true rfl) rfl rfl (Nat.le_of_ble_eq_true rfl) (Nat.le_of_ble_eq_true rfl) ?_
  refine c_few9 (m := (va_up m 1 (upd (m 1) 13 (nI (a + 1))))) (D := D) hC hc hp (fun m2 hag => (k_i ?_))
  refine r_istore 58 rfl [some (.ref 1), some (.int (nI c)), some (.int (nI p)), some (.int (nI w)), some (.int (oI (wb D c p 256)))] dX9_walls_56 (by decide) rfl ?_
  have k := k m2 hag
  rcases ho : wb D c p 256 with _ | x
  · rw [ho] at k
    show AW _ _ 58 [some (.ref 1), some (.int (nI c)), some (.int (nI p)), some (.int (nI w)), some (.int (-1))] [] _ _ 0 0
    refine r_iload 60 rfl dX9_walls_58 rfl ?_
    refine r_iconst 61 rfl (-1) dX9_walls_60 rfl ?_
    refine r_icmp_ne 64 66 rfl dX9_walls_61 rfl (fun q__ => absurd (by decide) q__) (fun _ => ?_)
    refine r_iconst 65 rfl (-1) dX9_walls_64 rfl ?_
    refine r_ireturn rfl dX9_walls_65 (Nat.le_of_ble_eq_true rfl) (Nat.le_of_ble_eq_true rfl) ?_
    exact k
  · have hxb := wb_lt 256 x ho
    rw [ho] at k
    show AW _ _ 58 [some (.ref 1), some (.int (nI c)), some (.int (nI p)), some (.int (nI w)), some (.int (nI x))] [] _ _ 0 0
    refine r_iload 60 rfl dX9_walls_58 rfl ?_
    refine r_iconst 61 rfl (-1) dX9_walls_60 rfl ?_
    refine r_icmp_ne 64 66 rfl dX9_walls_61 rfl (fun _ => ?_) (fun q__ => absurd q__ (nI_m1 (by omega)))
    refine r_iload_n 67 rfl 3 dX9_walls_66 rfl rfl ?_
    refine r_if_ne 70 78 rfl dX9_walls_67 rfl (fun c67 => ?_) (fun c67 => ?_)
    · replace c67 : ¬ w = 0 := fun q__ => c67 ((nI_eq (a := w) (b := 0) (by omega) (by omega)).mpr q__)
      refine r_iload 80 rfl dX9_walls_78 rfl ?_
      refine r_ireturn rfl dX9_walls_80 (Nat.le_of_ble_eq_true rfl) (Nat.le_of_ble_eq_true rfl) ?_
      rw [show wR (some x) w = nI x from if_neg (by omega)] at k
      exact k
    · replace c67 : w = 0 := (nI_eq (a := w) (b := 0) (by omega) (by omega)).mp c67
      refine r_iload 72 rfl dX9_walls_70 rfl ?_
      refine q_S 75 0 0 rfl [.int (nI x)] rfl dX9_walls_72 cl_X9_walls__J6_bitCount_0f7a4 (lk_X9_208 rfl) st_J6_bitCount_0f7a4 (Nat.le_of_ble_eq_true rfl) (fun _ _ => Nat.le_of_ble_eq_true rfl) rfl rfl (Nat.le_of_ble_eq_true rfl) (Nat.le_of_ble_eq_true rfl) ?_
      refine c_bitc (b := x) (by omega) (k_i ?_)
      refine r_goto 80 dX9_walls_75 rfl ?_
      refine r_ireturn rfl dX9_walls_80 (Nat.le_of_ble_eq_true rfl) (Nat.le_of_ble_eq_true rfl) ?_
      rw [show wR (some x) w = nI (on x) from if_pos (by omega)] at k
      exact k

set_option maxHeartbeats 4000000 in
set_option maxRecDepth 20000 in
theorem c10_walls_s {Q : am_P} {z : am_Z} {m : Nat → Nat → Int32} {n : Nat} {D : Nat → Nat → Nat} (hC : C10 m D){c p w : Nat} (hc : c < 8) (hf1 : 1 ≤ D 7 0) (hp : p < 3) (hw : w ≤ 1){a : Nat} (has : m 37 15 = nI a) (ha : a = 20) (k : Q (some (.int (-103))) (wd z m) n) : AW mX10_walls Q 0 (am_ent (am_l mX10_walls) [.ref 37, .int (nI c), .int (nI p), .int (nI w)]) [] (wd z m) n 0 0 := by
  show AW _ _ 0 [some (.ref 37), some (.int (nI c)), some (.int (nI p)), some (.int (nI w)), none, none, none, none] [] _ _ 0 0
  obtain ⟨hg, hfd, hf3, hf0, hns, hn7, hmr, hwi, hw4, hfr, hr1, hhr, hh⟩ := id hC
  refine r_aload_n 1 rfl 0 dX10_walls_0 rfl rfl ?_
  refine r_iload_n 2 rfl 1 dX10_walls_1 rfl rfl ?_
  refine q_V 5 0 0 rfl [.int (nI c)] rfl dX10_walls_2 cl_X10_walls__X10_isCell (lk_X10_119 rfl) im_X10_isCell (ci := 10) rfl sl_X10__X10_isCell rfl (Nat.le_of_ble_eq_true rfl) (fun _ _ => Nat.le_of_ble_eq_true rfl) rfl rfl (Nat.le_of_ble_eq_true rfl) (Nat.le_of_ble_eq_true rfl) ?_
  refine c10_isCell_t hc hfd hf1 hf3 (k_i ?_)
  refine r_if_ne 8 11 rfl dX10_walls_5 rfl (fun _ => ?_) (fun q__ => absurd q__ (by decide))
  refine r_iload_n 12 rfl 2 dX10_walls_11 rfl rfl ?_
  refine r_i2l 13 rfl dX10_walls_12 ?_
  refine r_lconst 14 rfl 0 dX10_walls_13 rfl ?_
  refine r_ldc2 17 rfl 2 dX10_walls_14 (cn_X10_115 rfl) ?_
  refine q_S 20 0 0 rfl [.long ((nI p).toInt64), .long 0, .long 2] rfl dX10_walls_17 cl_X10_walls__X10_in (lk_X10_64 rfl) st_X10_in (Nat.le_of_ble_eq_true rfl) (fun _ _ => Nat.le_of_ble_eq_true rfl) rfl rfl (Nat.le_of_ble_eq_true rfl) (Nat.le_of_ble_eq_true rfl) ?_
  refine c_in_t (show (0 : Int) ≤ (nI p).toInt64.toInt by rw [Int32.toInt_toInt64, nI_toInt (by omega)]; omega) (show (nI p).toInt64.toInt ≤ (2 : Int) by rw [Int32.toInt_toInt64, nI_toInt (by omega)]; omega) (k_i ?_)
  refine r_if_eq 23 33 rfl dX10_walls_20 rfl (fun q__ => absurd q__ (by decide)) (fun _ => ?_)
  refine r_iload_n 24 rfl 3 dX10_walls_23 rfl rfl ?_
  refine r_i2l 25 rfl dX10_walls_24 ?_
  refine r_lconst 26 rfl 0 dX10_walls_25 rfl ?_
  refine r_lconst 27 rfl 1 dX10_walls_26 rfl ?_
  refine q_S 30 0 0 rfl [.long ((nI w).toInt64), .long 0, .long 1] rfl dX10_walls_27 cl_X10_walls__X10_in (lk_X10_64 rfl) st_X10_in (Nat.le_of_ble_eq_true rfl) (fun _ _ => Nat.le_of_ble_eq_true rfl) rfl rfl (Nat.le_of_ble_eq_true rfl) (Nat.le_of_ble_eq_true rfl) ?_
  refine c_in_t (show (0 : Int) ≤ (nI w).toInt64.toInt by rw [Int32.toInt_toInt64, nI_toInt (by omega)]; omega) (show (nI w).toInt64.toInt ≤ (1 : Int) by rw [Int32.toInt_toInt64, nI_toInt (by omega)]; omega) (k_i ?_)
  refine r_if_ne 33 36 rfl dX10_walls_30 rfl (fun _ => ?_) (fun q__ => absurd q__ (by decide))
  refine r_aload_n 37 rfl 0 dX10_walls_36 rfl rfl ?_
  refine r_getf (v := .int ((m 37) 15)) (k := 15) 40 rfl dX10_walls_37 (gf_X10_183_10 rfl) rfl rfl ?_
  rw [show (m 37) 15 = nI a from has]
  refine r_bipush 42 rfl 20 dX10_walls_40 (by decide) ?_
  refine r_icmp_ne 45 48 rfl dX10_walls_42 rfl (fun q__ => absurd ((nI_eq (a := a) (b := 20) (by omega) (by omega)).mpr (by omega)) q__) (fun _ => ?_)
  refine r_bipush 47 rfl (-103) dX10_walls_45 (by decide) ?_
  refine r_ireturn rfl dX10_walls_47 (Nat.le_of_ble_eq_true rfl) (Nat.le_of_ble_eq_true rfl) ?_
  exact k

set_option maxHeartbeats 4000000 in
set_option maxRecDepth 20000 in
theorem c10_walls_t {Q : am_P} {z : am_Z} {m : Nat → Nat → Int32} {n : Nat} {D : Nat → Nat → Nat} (hC : C10 m D){c p w : Nat} (hc : c < 8) (hf1 : 1 ≤ D 7 0) (hp : p < 3) (hw : w ≤ 1){a : Nat} (has : m 37 15 = nI a) (ha : a < 20) (k : ∀ m', (∀ j, j < 8 → m' 39 j = m 39 j) → ag [39, 43, 44, 45, 46] (va_up m 37 (upd (m 37) 15 (nI (a + 1)))) m' → Q (some (.int (wR (wb D c p 256) w))) (wd z m') n) : AW mX10_walls Q 0 (am_ent (am_l mX10_walls) [.ref 37, .int (nI c), .int (nI p), .int (nI w)]) [] (wd z m) n 0 0 := by
  show AW _ _ 0 [some (.ref 37), some (.int (nI c)), some (.int (nI p)), some (.int (nI w)), none, none, none, none] [] _ _ 0 0
  obtain ⟨hg, hfd, hf3, hf0, hns, hn7, hmr, hwi, hw4, hfr, hr1, hhr, hh⟩ := id hC
  refine r_aload_n 1 rfl 0 dX10_walls_0 rfl rfl ?_
  refine r_iload_n 2 rfl 1 dX10_walls_1 rfl rfl ?_
  refine q_V 5 0 0 rfl [.int (nI c)] rfl dX10_walls_2 cl_X10_walls__X10_isCell (lk_X10_119 rfl) im_X10_isCell (ci := 10) rfl sl_X10__X10_isCell rfl (Nat.le_of_ble_eq_true rfl) (fun _ _ => Nat.le_of_ble_eq_true rfl) rfl rfl (Nat.le_of_ble_eq_true rfl) (Nat.le_of_ble_eq_true rfl) ?_
  refine c10_isCell_t hc hfd hf1 hf3 (k_i ?_)
  refine r_if_ne 8 11 rfl dX10_walls_5 rfl (fun _ => ?_) (fun q__ => absurd q__ (by decide))
  refine r_iload_n 12 rfl 2 dX10_walls_11 rfl rfl ?_
  refine r_i2l 13 rfl dX10_walls_12 ?_
  refine r_lconst 14 rfl 0 dX10_walls_13 rfl ?_
  refine r_ldc2 17 rfl 2 dX10_walls_14 (cn_X10_115 rfl) ?_
  refine q_S 20 0 0 rfl [.long ((nI p).toInt64), .long 0, .long 2] rfl dX10_walls_17 cl_X10_walls__X10_in (lk_X10_64 rfl) st_X10_in (Nat.le_of_ble_eq_true rfl) (fun _ _ => Nat.le_of_ble_eq_true rfl) rfl rfl (Nat.le_of_ble_eq_true rfl) (Nat.le_of_ble_eq_true rfl) ?_
  refine c_in_t (show (0 : Int) ≤ (nI p).toInt64.toInt by rw [Int32.toInt_toInt64, nI_toInt (by omega)]; omega) (show (nI p).toInt64.toInt ≤ (2 : Int) by rw [Int32.toInt_toInt64, nI_toInt (by omega)]; omega) (k_i ?_)
  refine r_if_eq 23 33 rfl dX10_walls_20 rfl (fun q__ => absurd q__ (by decide)) (fun _ => ?_)
  refine r_iload_n 24 rfl 3 dX10_walls_23 rfl rfl ?_
  refine r_i2l 25 rfl dX10_walls_24 ?_
  refine r_lconst 26 rfl 0 dX10_walls_25 rfl ?_
  refine r_lconst 27 rfl 1 dX10_walls_26 rfl ?_
  refine q_S 30 0 0 rfl [.long ((nI w).toInt64), .long 0, .long 1] rfl dX10_walls_27 cl_X10_walls__X10_in (lk_X10_64 rfl) st_X10_in (Nat.le_of_ble_eq_true rfl) (fun _ _ => Nat.le_of_ble_eq_true rfl) rfl rfl (Nat.le_of_ble_eq_true rfl) (Nat.le_of_ble_eq_true rfl) ?_
  refine c_in_t (show (0 : Int) ≤ (nI w).toInt64.toInt by rw [Int32.toInt_toInt64, nI_toInt (by omega)]; omega) (show (nI w).toInt64.toInt ≤ (1 : Int) by rw [Int32.toInt_toInt64, nI_toInt (by omega)]; omega) (k_i ?_)
  refine r_if_ne 33 36 rfl dX10_walls_30 rfl (fun _ => ?_) (fun q__ => absurd q__ (by decide))
  refine r_aload_n 37 rfl 0 dX10_walls_36 rfl rfl ?_
  refine r_getf (v := .int ((m 37) 15)) (k := 15) 40 rfl dX10_walls_37 (gf_X10_183_10 rfl) rfl rfl ?_
  rw [show (m 37) 15 = nI a from has]
  refine r_bipush 42 rfl 20 dX10_walls_40 (by decide) ?_
  refine r_icmp_ne 45 48 rfl dX10_walls_42 rfl (fun _ => ?_) (fun q__ => absurd q__ (fun q__ => absurd ((nI_eq (a := a) (b := 20) (by omega) (by omega)).mp q__) (by omega)))
  refine r_aload_n 49 rfl 0 dX10_walls_48 rfl rfl ?_
  refine r_dup 50 rfl dX10_walls_49 rfl ?_
  refine r_getf (v := .int ((m 37) 15)) (k := 15) 53 rfl dX10_walls_50 (gf_X10_183_10 rfl) rfl rfl ?_
  rw [show (m 37) 15 = nI a from has]
  refine r_iconst 54 rfl 1 dX10_walls_53 rfl ?_
  refine r_iadd 55 rfl dX10_walls_54 ?_
  rw [show (nI a) + 1 = nI (a + 1) from nI_add a 1]
  refine w_putf 58 rfl (k := 15) (va_up m 37 (upd (m 37) 15 (nI (a + 1)))) dX10_walls_55 (pf_X10_183_10 rfl) (by decide) (by decide) rfl (Nat.le_of_ble_eq_true rfl) rfl ⟨rfl, rfl⟩ rfl ?_
  refine r_aload_n 59 rfl 0 dX10_walls_58 rfl rfl ?_
  refine r_getf (v := .ref 39) (k := 7) 62 rfl dX10_walls_59 (gf_X10_13_10 rfl) rfl rfl ?_
  refine r_aload_n 63 rfl 0 dX10_walls_62 rfl rfl ?_
  refine r_getf (v := .ref 46) (k := 16) 66 rfl dX10_walls_63 (gf_X10_34_10 rfl) rfl rfl ?_
  refine q_S 69 0 0 rfl [.ref 39, .ref 46] rfl dX10_walls_66 cl_X10_walls__X10_copy (lk_X10_186 rfl) st_X10_copy (Nat.le_of_ble_eq_true rfl) (fun _ _ => Nat.le_of_ble_eq_true rfl) rfl rfl (Nat.le_of_ble_eq_true rfl) (Nat.le_of_ble_eq_true rfl) ?_
  refine c_cp_39_46 (m := (va_up m 37 (upd (m 37) 15 (nI (a + 1))))) (fun m1 r46 hag1 => (k_v ?_))
  have hC1 : C10 m1 D := C10_ag (m := (va_up m 37 (upd (m 37) 15 (nI (a + 1))))) (D := D) hC hag1 (by decide)
  have h46 : ∀ j, j < 8 → m1 46 j = nI (D 0 j) := fun j hj => by rw [r46 j hj]; exact (hg j hj).1
  refine r_aload_n 70 rfl 0 dX10_walls_69 rfl rfl ?_
  refine r_iload_n 71 rfl 1 dX10_walls_70 rfl rfl ?_
  refine q_V 74 0 0 rfl [.int (nI c)] rfl dX10_walls_71 cl_X10_walls__X10_mayBeWalls (lk_X10_190 rfl) im_X10_mayBeWalls (ci := 10) rfl sl_X10__X10_mayBeWalls rfl (Nat.le_of_ble_eq_true rfl) (fun _ _ => Nat.le_of_ble_eq_true rfl) rfl rfl (Nat.le_of_ble_eq_true rfl) (Nat.le_of_ble_eq_true rfl) ?_
  refine c_free10 hC1 hc (k_i ?_)
  refine r_istore 76 rfl [some (.ref 37), some (.int (nI c)), some (.int (nI p)), some (.int (nI w)), some (.int (fr2 D c (D 7 1))), none, none, none] dX10_walls_74 (by decide) rfl ?_
  refine r_iconst 77 rfl (-1) dX10_walls_76 rfl ?_
  refine r_istore 79 rfl [some (.ref 37), some (.int (nI c)), some (.int (nI p)), some (.int (nI w)), some (.int (fr2 D c (D 7 1))), some (.int (-1)), none, none] dX10_walls_77 (by decide) rfl ?_
  refine r_iconst 80 rfl 0 dX10_walls_79 rfl ?_
  refine r_istore 82 rfl [some (.ref 37), some (.int (nI c)), some (.int (nI p)), some (.int (nI w)), some (.int (fr2 D c (D 7 1))), some (.int (-1)), some (.int 0), none] dX10_walls_80 (by decide) rfl ?_
  refine lp_few10 hC1 hc hp hw h46 (fun m2 hag2 => ?_) 256 0 rfl m1 (ag_r _ _)
  refine r_aload_n 193 rfl 0 dX10_walls_192 rfl rfl ?_
  refine r_getf (v := .ref 46) (k := 16) 196 rfl dX10_walls_193 (gf_X10_34_10 rfl) rfl rfl ?_
  refine r_aload_n 197 rfl 0 dX10_walls_196 rfl rfl ?_
  refine r_getf (v := .ref 39) (k := 7) 200 rfl dX10_walls_197 (gf_X10_13_10 rfl) rfl rfl ?_
  refine q_S 203 0 0 rfl [.ref 46, .ref 39] rfl dX10_walls_200 cl_X10_walls__X10_copy (lk_X10_186 rfl) st_X10_copy (Nat.le_of_ble_eq_true rfl) (fun _ _ => Nat.le_of_ble_eq_true rfl) rfl rfl (Nat.le_of_ble_eq_true rfl) (Nat.le_of_ble_eq_true rfl) ?_
  refine c_cp_46_39 (fun m3 r39 hag3 => (k_v ?_))
  have k := k m3 (fun j hj => by rw [r39 j hj, hag2 46 (by decide), r46 j hj]; rfl) (ag_t (ag_t (ag_w hag1 (by decide)) hag2 (by decide)) hag3 (by decide))
  rcases ho : wb D c p 256 with _ | x
  · rw [ho] at k
    show AW _ _ 203 [some (.ref 37), none, none, some (.int (nI w)), none, some (.int (-1)), none, none] [] _ _ 0 0
    refine r_iload 205 rfl dX10_walls_203 rfl ?_
    refine r_iconst 206 rfl (-1) dX10_walls_205 rfl ?_
    refine r_icmp_eq 209 214 rfl dX10_walls_206 rfl (fun _ => ?_) (fun q__ => absurd (by decide) q__)
    refine r_iload 216 rfl dX10_walls_214 rfl ?_
    refine r_goto 224 dX10_walls_216 rfl ?_
    refine r_ireturn rfl dX10_walls_224 (Nat.le_of_ble_eq_true rfl) (Nat.le_of_ble_eq_true rfl) ?_
    exact k
  · have hxb := wb_lt 256 x ho
    rw [ho] at k
    show AW _ _ 203 [some (.ref 37), none, none, some (.int (nI w)), none, some (.int (nI x)), none, none] [] _ _ 0 0
    refine r_iload 205 rfl dX10_walls_203 rfl ?_
    refine r_iconst 206 rfl (-1) dX10_walls_205 rfl ?_
    refine r_icmp_eq 209 214 rfl dX10_walls_206 rfl (fun q__ => absurd q__ (nI_m1 (by omega))) (fun _ => ?_)
    refine r_iload_n 210 rfl 3 dX10_walls_209 rfl rfl ?_
    refine r_iconst 211 rfl 1 dX10_walls_210 rfl ?_
    refine r_icmp_ne 214 219 rfl dX10_walls_211 rfl (fun c211 => ?_) (fun c211 => ?_)
    · replace c211 : ¬ w = 1 := fun q__ => c211 ((nI_eq (a := w) (b := 1) (by omega) (by omega)).mpr q__)
      refine r_iload 221 rfl dX10_walls_219 rfl ?_
      refine q_S 224 0 0 rfl [.int (nI x)] rfl dX10_walls_221 cl_X10_walls__X10_ones (lk_X10_193 rfl) st_X10_ones (Nat.le_of_ble_eq_true rfl) (fun _ _ => Nat.le_of_ble_eq_true rfl) rfl rfl (Nat.le_of_ble_eq_true rfl) (Nat.le_of_ble_eq_true rfl) ?_
      refine c_ones (b := x) (by omega) (k_i ?_)
      refine r_ireturn rfl dX10_walls_224 (Nat.le_of_ble_eq_true rfl) (Nat.le_of_ble_eq_true rfl) ?_
      rw [show wR (some x) w = nI (on x) from if_pos (by omega)] at k
      exact k
    · replace c211 : w = 1 := (nI_eq (a := w) (b := 1) (by omega) (by omega)).mp c211
      refine r_iload 216 rfl dX10_walls_214 rfl ?_
      refine r_goto 224 dX10_walls_216 rfl ?_
      refine r_ireturn rfl dX10_walls_224 (Nat.le_of_ble_eq_true rfl) (Nat.le_of_ble_eq_true rfl) ?_
      rw [show wR (some x) w = nI x from if_neg (by omega)] at k
      exact k

theorem IV_wal {i : Nat} {z : am_Z} {m : Nat → Nat → Int32} {n : Nat} {D K : Nat → Nat → Nat} (hI : IV i z m n D K) (ha : D 8 3 < 20) : IV i z (va_up (va_up m 1 (upd (m 1) 13 (nI (D 8 3 + 1)))) 37 (upd (m 37) 15 (nI (D 8 3 + 1)))) n (va_up D 8 (va_up (D 8) 3 (D 8 3 + 1))) K := by
  obtain ⟨h9, h10, hnz, hpg, hop, hnw, ⟨c1, c2, c3, c4, c5, c6⟩, him⟩ := hI
  exact ⟨h9, h10, hnz, hpg, hop, hnw, ⟨c1, ⟨rfl, rfl, (show D 8 3 + 1 ≤ 20 by omega)⟩, c3, c4, c5, c6⟩, him⟩
theorem IV_39 {i : Nat} {z : am_Z} {m m' : Nat → Nat → Int32} {n : Nat} {D K : Nat → Nat → Nat} (hI : IV i z m n D K) (hag : ag [29, 30, 31, 32, 39, 43, 44, 45, 46] m m') (h39 : ∀ j, j < 8 → m' 39 j = m 39 j) : IV i z m' n D K := by
  have hI1 : IV i z (va_up m' 39 (m 39)) n D K := IV_ag hI (fun x hx => by
    by_cases h1 : x = 39
    · subst h1; rw [va_up_self]
    · rw [va_up_ne _ _ h1]; exact hag x (fun q => hx (by simp only [List.mem_cons, List.not_mem_nil, or_false] at q ⊢; omega)))
  obtain ⟨h9, ⟨gg, g2⟩, hnz, hpg, hop, hnw, hct, him⟩ := hI1
  exact ⟨h9, ⟨fun j hj => ⟨(h39 j hj).trans (gg j hj).1, (gg j hj).2⟩, g2⟩, hnz, hpg, hop, hnw, hct, him⟩

set_option maxHeartbeats 4000000 in
set_option maxRecDepth 20000 in
theorem P_walls {i : Nat} {z : am_Z} {m : Nat → Nat → Int32} {n : Nat} {D K : Nat → Nat → Nat} (hI : IV i z m n D K) (hi : i + 5 ≤ 2560) (x : Int32) (y : Int32) (u : Int32) : AW mX9_walls (PR (i + 5) mX10_walls [.ref 37, .int x, .int y, .int u]) 0 (am_ent (am_l mX9_walls) [.ref 1, .int x, .int y, .int u]) [] (wd z m) n 0 0 := by
  obtain ⟨h9, h10, hnz, hpg, hop, hnw, hct, him⟩ := id hI
  obtain ⟨hg, hfd, hf3, hf0, hns, hn6, hsd, hsb, hwi, hw4, hfr, hr1, hhr, hh⟩ := id h9
  by_cases hx : D 7 0 = 0 ∨ x.toInt < 0 ∨ 8 ≤ x.toInt
  · exact c9_walls_n h9 hx (PR_i (fun Q2 k => c10_walls_n h10 hx (k _ _ _ _ _ (IV_mono hI (by omega) hi))))
  · have hf1 : 1 ≤ D 7 0 := by omega
    obtain ⟨c, hc, rfl⟩ := (i_cases x 8 (by decide)).resolve_left (by omega)
    have has := hct.2.1
    rcases i_cases y 3 (by decide) with hy | ⟨p, hp, rfl⟩
    · exact c9_walls_o1 h9 hc hf1 hy (PR_i (fun Q2 k => c10_walls_o1 h10 hc hf1 hy (k _ _ _ _ _ (IV_mono hI (by omega) hi))))
    · rcases i_cases u 2 (by decide) with hu | ⟨w, hw, rfl⟩
      · exact c9_walls_o2 h9 hc hf1 hp hu (PR_i (fun Q2 k => c10_walls_o2 h10 hc hf1 hp hu (k _ _ _ _ _ (IV_mono hI (by omega) hi))))
      · by_cases ha : D 8 3 = 20
        · exact c9_walls_s h9 hc hf1 hp (by omega) has.1 ha (PR_i (fun Q2 k => c10_walls_s h10 hc hf1 hp (by omega) has.2.1 ha (k _ _ _ _ _ (IV_mono hI (by omega) hi))))
        · refine c9_walls_t h9 hc hf1 hp (w := w) (by omega) has.1 (by omega) (fun m1 hag => PR_i (fun Q2 k => ?_))
          have e (x : Nat) (hx : x ∉ [1, 29, 30, 31, 32]) : m1 x = m x := by
            have hx1 : x ≠ 1 := fun q => hx (by rw [q]; decide)
            rw [hag x (fun q => hx (List.mem_cons_of_mem _ q)), va_up_ne _ _ hx1]
          refine c10_walls_t (D := D) (C10_ag (m := m) h10 (S := [1, 29, 30, 31, 32]) e (by decide)) hc hf1 hp (w := w) (by omega) (a := D 8 3) (by rw [e 37 (by decide)]; exact has.2.1) (by omega) (fun m2 h39 hag2 => ?_)
          refine k _ _ _ _ _ (IV_mono (IV_39 (IV_wal hI (by omega)) (m' := m2) (fun x hx => ?_) (fun j hj => ?_)) (by omega) hi)
          · by_cases h1 : x = 37
            · subst h1; rw [hag2 37 (by decide), va_up_self, va_up_self, e 37 (by decide)]
            · rw [hag2 x (fun q => hx (by simp only [List.mem_cons, List.not_mem_nil, or_false] at q ⊢; omega)), va_up_ne _ _ h1, va_up_ne _ _ h1]
              exact hag x (fun q => hx (by simp only [List.mem_cons, List.not_mem_nil, or_false] at q ⊢; omega))
          · rw [h39 j hj, e 39 (by decide)]; rfl
