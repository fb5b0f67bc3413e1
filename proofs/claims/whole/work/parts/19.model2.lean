set_option maxHeartbeats 4000000 in
set_option maxRecDepth 20000 in
theorem lp_layMuch2 {Q : am_P} {z : am_Z} {m : Nat → Nat → Int32} {n : Nat} (g : Nat → Nat) (hg : ∀ j, j < 8 → m 39 j = nI (g j) ∧ g j ≤ 2) {fd : Nat} (hfd : m 37 2 = nI fd) (hf1 : 1 ≤ fd) (hf3 : fd ≤ 3) {s kd wi : Nat} (hs : s < 7) (hkd : m 42 (6 * s) = nI kd) (hk4 : kd ≤ 4) (hwi : m 37 3 = nI wi) (hwi4 : wi ≤ 4) (u : Nat → Nat) (hu : ∀ j, u j ≤ 9) (kx : ∀ m', (∀ j, j < 8 → m' 43 j = nI (sp_k (sp_E g no_b fd (so_ea kd) wi) u 32 j)) → ag [43] m m' → AW mX10_layMuch Q 201 [some (.ref 37), some (.int (nI s)), some (.int (if sp_gk (sp_E g no_b fd (so_ea kd) wi) u 32 = true then 1 else 0)), none, none, none, none, none] [] (wd z m') n 0 0) : ∀ (d k : Nat), k + d = 32 → ∀ m', (∀ j, j < 8 → m' 43 j = nI (sp_k (sp_E g no_b fd (so_ea kd) wi) u k j)) → ag [43] m m' → AW mX10_layMuch Q 61 [some (.ref 37), some (.int (nI s)), some (.int (if sp_gk (sp_E g no_b fd (so_ea kd) wi) u k = true then 1 else 0)), some (.int (nI k)), none, none, none, none] [] (wd z m') n 0 0 := by
  intro d
  induction d with
  | zero =>
    intro k hk m' hm hag
    have hk : k = 32 := by omega
    subst hk
    refine r_iload_n 62 rfl 3 dX10_layMuch_61 rfl rfl ?_
    refine r_bipush 64 rfl 32 dX10_layMuch_62 (by decide) ?_
    refine r_icmp_ge 67 201 rfl dX10_layMuch_64 rfl (fun _ => ?_) (fun q__ => absurd ((nI_leI (a := 32) (b := 32) (by omega) (by omega)).mpr (by omega)) q__)
    refine AW.drop 3 [some (.ref 37), some (.int (nI s)), some (.int (if sp_gk (sp_E g no_b fd (so_ea kd) wi) u 32 = true then 1 else 0)), none, none, none, none, none] rfl ?_
    exact kx m' hm hag
  | succ d ih =>
    intro k hk m' hm hag
    have hg' : ∀ j, j < 8 → m' 39 j = nI (g j) ∧ g j ≤ 2 := fun j hj => by rw [hag 39 (by decide)]; exact hg j hj
    have hfd' : m' 37 2 = nI fd := by rw [hag 37 (by decide)]; exact hfd
    have hwi' : m' 37 3 = nI wi := by rw [hag 37 (by decide)]; exact hwi
    have hkd' : m' 42 (6 * s) = nI kd := by rw [hag 42 (by decide)]; exact hkd
    have hub := sp_k_le (E := (sp_E g no_b fd (so_ea kd) wi)) hu k
    have er : sp_k (sp_E g no_b fd (so_ea kd) wi) u (k + 1) = sp_st (sp_E g no_b fd (so_ea kd) wi) (sp_k (sp_E g no_b fd (so_ea kd) wi) u k) (k / 4) (k % 4 + 1) := rfl
    have eg : sp_gk (sp_E g no_b fd (so_ea kd) wi) u (k + 1) = (sp_gk (sp_E g no_b fd (so_ea kd) wi) u k || sp_fire (sp_E g no_b fd (so_ea kd) wi) (sp_k (sp_E g no_b fd (so_ea kd) wi) u k) (k / 4) (k % 4 + 1)) := rfl
    have hc8 : k / 4 < 8 := by omega
    generalize hv : sp_k (sp_E g no_b fd (so_ea kd) wi) u k = v at hm hub er eg
    generalize hc : k / 4 = c at er eg hc8
    generalize hw : k % 4 = w at er eg
    have hw4 : w < 4 := by omega
    have hcv := hub c
    rcases Bool.eq_false_or_eq_true (sp_gk (sp_E g no_b fd (so_ea kd) wi) u k) with hgk | hgk
    · rw [if_pos hgk]
      refine r_iload_n 62 rfl 3 dX10_layMuch_61 rfl rfl ?_
      refine r_bipush 64 rfl 32 dX10_layMuch_62 (by decide) ?_
      refine r_icmp_ge 67 201 rfl dX10_layMuch_64 rfl (fun q__ => absurd q__ (fun q__ => absurd ((nI_leI (a := 32) (b := k) (by omega) (by omega)).mp q__) (by omega))) (fun _ => ?_)
      refine r_iload_n 68 rfl 3 dX10_layMuch_67 rfl rfl ?_
      refine r_iconst 69 rfl 4 dX10_layMuch_68 rfl ?_
      refine r_idiv 70 rfl dX10_layMuch_69 (by decide) ?_
      rw [show (nI k) / 4 = nI (k / 4) from pk_div (a := k) (d := 4) (by omega) (by decide) (by decide)]
      rw [hc]
      refine r_istore 72 rfl [some (.ref 37), some (.int (nI s)), some (.int 1), some (.int (nI k)), some (.int (nI c)), none, none, none] dX10_layMuch_70 (by decide) rfl ?_
      refine r_iload_n 73 rfl 3 dX10_layMuch_72 rfl rfl ?_
      refine r_iconst 74 rfl 4 dX10_layMuch_73 rfl ?_
      refine r_irem 75 rfl dX10_layMuch_74 (by decide) ?_
      rw [show (nI k) - (nI k) / 4 * 4 = nI (k % 4) from pk_rem (a := k) (d := 4) (by omega) (by decide) (by decide)]
      refine r_iconst 76 rfl 1 dX10_layMuch_75 rfl ?_
      refine r_iadd 77 rfl dX10_layMuch_76 ?_
      rw [show (nI (k % 4)) + 1 = nI ((k % 4) + 1) from nI_add (k % 4) 1]
      rw [hw]
      refine r_istore 79 rfl [some (.ref 37), some (.int (nI s)), some (.int 1), some (.int (nI k)), some (.int (nI c)), some (.int (nI (w + 1))), none, none] dX10_layMuch_77 (by decide) rfl ?_
      refine r_iload 81 rfl dX10_layMuch_79 rfl ?_
      refine r_iload 83 rfl dX10_layMuch_81 rfl ?_
      refine q_S 86 0 0 rfl [.int (nI c), .int (nI (w + 1))] rfl dX10_layMuch_83 cl_X10_layMuch__X10_beside (lk_X10_137 rfl) st_X10_beside (Nat.le_of_ble_eq_true rfl) (fun _ _ => Nat.le_of_ble_eq_true rfl) rfl rfl (Nat.le_of_ble_eq_true rfl) (Nat.le_of_ble_eq_true rfl) ?_
      refine c_X10_beside hc8 (by omega) (by omega) (fun t hto ht => (k_i ?_)) (fun hto => (k_i ?_))
      · have hvt := hub t
        have hgt := (hg' t ht).2
        refine r_istore 88 rfl [some (.ref 37), some (.int (nI s)), some (.int 1), some (.int (nI k)), some (.int (nI c)), some (.int (nI (w + 1))), some (.int (nI t)), none] dX10_layMuch_86 (by decide) rfl ?_
        refine r_iload 90 rfl dX10_layMuch_88 rfl ?_
        refine r_iconst 91 rfl (-1) dX10_layMuch_90 rfl ?_
        refine r_icmp_eq 94 195 rfl dX10_layMuch_91 rfl (fun q__ => absurd q__ (nI_m1 (by omega))) (fun _ => ?_)
        refine r_aload_n 95 rfl 0 dX10_layMuch_94 rfl rfl ?_
        refine r_getf (v := .ref 39) (k := 7) 98 rfl dX10_layMuch_95 (gf_X10_13_10 rfl) rfl rfl ?_
        refine r_iload 100 rfl dX10_layMuch_98 rfl ?_
        refine r_iald (f := m' 39) 101 rfl t dX10_layMuch_100 rfl rfl (by omega) (by decide) ?_
        rw [show (m' 39) t = nI (g t) from (hg' t ht).1]
        refine r_iconst 102 rfl 1 dX10_layMuch_101 rfl ?_
        refine r_icmp_eq 105 195 rfl dX10_layMuch_102 rfl (fun hwall => ?_) (fun hwall => ?_)
        · replace hwall : g t = 1 := (nI_eq (a := (g t)) (b := 1) (by omega) (by omega)).mp hwall
          refine r_iinc 198 rfl (nI (k + 1)) [some (.ref 37), some (.int (nI s)), some (.int 1), some (.int (nI (k + 1))), some (.int (nI c)), some (.int (nI (w + 1))), some (.int (nI t)), none] dX10_layMuch_195 rfl (nI_1 _) (by decide) rfl ?_
          refine r_goto 61 dX10_layMuch_198 rfl ?_
          refine AW.drop 4 [some (.ref 37), some (.int (nI s)), some (.int 1), some (.int (nI (k + 1))), none, some (.int (nI (w + 1))), some (.int (nI t)), none] rfl ?_
          refine AW.drop 5 [some (.ref 37), some (.int (nI s)), some (.int 1), some (.int (nI (k + 1))), none, none, some (.int (nI t)), none] rfl ?_
          refine AW.drop 6 [some (.ref 37), some (.int (nI s)), some (.int 1), some (.int (nI (k + 1))), none, none, none, none] rfl ?_
          have e1 : sp_fire (sp_E g no_b fd (so_ea kd) wi) v c (w + 1) = false := by unfold sp_fire; rw [show (sp_E g no_b fd (so_ea kd) wi) c (w + 1) = none by unfold sp_E; rw [hto]; exact if_pos (Or.inl hwall)]
          have e3 : sp_gk (sp_E g no_b fd (so_ea kd) wi) u (k + 1) = true := by rw [eg, hgk, e1]; rfl
          rw [show (1 : Int32) = (if sp_gk (sp_E g no_b fd (so_ea kd) wi) u (k + 1) = true then 1 else 0) by rw [if_pos (show sp_gk (sp_E g no_b fd (so_ea kd) wi) u (k + 1) = true by rw [e3]; try decide)]]
          exact ih (k + 1) (by omega) m' (fun j hj => by rw [er, sp_st_eq e1]; exact hm j hj) hag
        · replace hwall : ¬ (g t) = 1 := fun q__ => hwall ((nI_eq (a := (g t)) (b := 1) (by omega) (by omega)).mpr q__)
          refine r_aload_n 106 rfl 0 dX10_layMuch_105 rfl rfl ?_
          refine r_getf (v := .ref 43) (k := 12) 109 rfl dX10_layMuch_106 (gf_X10_25_10 rfl) rfl rfl ?_
          refine r_iload 111 rfl dX10_layMuch_109 rfl ?_
          refine r_iald (f := m' 43) 112 rfl c dX10_layMuch_111 rfl rfl (by omega) (by decide) ?_
          rw [show (m' 43) c = nI (v c) from hm c hc8]
          refine r_if_le 115 195 rfl dX10_layMuch_112 rfl (fun c112 => ?_) (fun c112 => ?_)
          · replace c112 : v c ≤ 0 := (nI_leI (a := (v c)) (b := 0) (by omega) (by omega)).mp c112
            refine r_iinc 198 rfl (nI (k + 1)) [some (.ref 37), some (.int (nI s)), some (.int 1), some (.int (nI (k + 1))), some (.int (nI c)), some (.int (nI (w + 1))), some (.int (nI t)), none] dX10_layMuch_195 rfl (nI_1 _) (by decide) rfl ?_
            refine r_goto 61 dX10_layMuch_198 rfl ?_
            refine AW.drop 4 [some (.ref 37), some (.int (nI s)), some (.int 1), some (.int (nI (k + 1))), none, some (.int (nI (w + 1))), some (.int (nI t)), none] rfl ?_
            refine AW.drop 5 [some (.ref 37), some (.int (nI s)), some (.int 1), some (.int (nI (k + 1))), none, none, some (.int (nI t)), none] rfl ?_
            refine AW.drop 6 [some (.ref 37), some (.int (nI s)), some (.int 1), some (.int (nI (k + 1))), none, none, none, none] rfl ?_
            have e1 : sp_fire (sp_E g no_b fd (so_ea kd) wi) v c (w + 1) = false := by exact sp_fire_0 (by omega)
            have e3 : sp_gk (sp_E g no_b fd (so_ea kd) wi) u (k + 1) = true := by rw [eg, hgk, e1]; rfl
            rw [show (1 : Int32) = (if sp_gk (sp_E g no_b fd (so_ea kd) wi) u (k + 1) = true then 1 else 0) by rw [if_pos (show sp_gk (sp_E g no_b fd (so_ea kd) wi) u (k + 1) = true by rw [e3]; try decide)]]
            exact ih (k + 1) (by omega) m' (fun j hj => by rw [er, sp_st_eq e1]; exact hm j hj) hag
          · replace c112 : ¬ (v c) ≤ 0 := fun q__ => c112 ((nI_leI (a := (v c)) (b := 0) (by omega) (by omega)).mpr q__)
            have hE : (sp_E g no_b fd (so_ea kd) wi) c (w + 1) = some (t, sp_loss fd (so_ea kd) wi (w + 1) (g t)) := by unfold sp_E; rw [hto]; exact if_neg (fun q => q.elim hwall (fun q2 => by cases q2))
            refine r_aload_n 116 rfl 0 dX10_layMuch_115 rfl rfl ?_
            refine r_getf (v := .ref 43) (k := 12) 119 rfl dX10_layMuch_116 (gf_X10_25_10 rfl) rfl rfl ?_
            refine r_iload 121 rfl dX10_layMuch_119 rfl ?_
            refine r_iald (f := m' 43) 122 rfl c dX10_layMuch_121 rfl rfl (by omega) (by decide) ?_
            rw [show (m' 43) c = nI (v c) from hm c hc8]
            refine r_aload_n 123 rfl 0 dX10_layMuch_122 rfl rfl ?_
            refine r_aload_n 124 rfl 0 dX10_layMuch_123 rfl rfl ?_
            refine r_getf (v := .ref 42) (k := 11) 127 rfl dX10_layMuch_124 (gf_X10_22_10 rfl) rfl rfl ?_
            refine r_bipush 129 rfl 6 dX10_layMuch_127 (by decide) ?_
            refine r_iload_n 130 rfl 1 dX10_layMuch_129 rfl rfl ?_
            refine r_imul 131 rfl dX10_layMuch_130 ?_
            rw [show 6 * (nI s) = nI (6 * s) from pk_mul 6 s]
            refine r_iald (f := m' 42) 132 rfl (6 * s) dX10_layMuch_131 rfl rfl (by omega) (by decide) ?_
            rw [show (m' 42) (6 * s) = nI kd from hkd']
            refine r_iload 134 rfl dX10_layMuch_132 rfl ?_
            refine r_iload 136 rfl dX10_layMuch_134 rfl ?_
            refine q_V 139 0 0 rfl [.int (nI kd), .int (nI (w + 1)), .int (nI t)] rfl dX10_layMuch_136 cl_X10_layMuch__X10_lossOf (lk_X10_141 rfl) im_X10_lossOf (ci := 10) rfl sl_X10__X10_lossOf rfl (Nat.le_of_ble_eq_true rfl) (fun _ _ => Nat.le_of_ble_eq_true rfl) rfl rfl (Nat.le_of_ble_eq_true rfl) (Nat.le_of_ble_eq_true rfl) ?_
            refine c_X10_lossOf g hg' hfd' hf1 hf3 hk4 ht (by omega) (by omega) hwi' hwi4 (k_i ?_)
            have hll := sp_loss_le (ea := so_ea kd) (wi := wi) (w := w + 1) (g := g t) hf3
            refine r_isub 140 rfl dX10_layMuch_139 ?_
            refine r_istore 142 rfl [some (.ref 37), some (.int (nI s)), some (.int 1), some (.int (nI k)), some (.int (nI c)), some (.int (nI (w + 1))), some (.int (nI t)), some (.int ((nI (v c)) - (nI (sp_loss fd (so_ea kd) wi (w + 1) (g t)))))] dX10_layMuch_140 (by decide) rfl ?_
            refine r_iload_n 143 rfl 2 dX10_layMuch_142 rfl rfl ?_
            refine r_if_ne 146 158 rfl dX10_layMuch_143 rfl (fun _ => ?_) (fun q__ => absurd q__ (by decide))
            refine r_iconst 159 rfl 1 dX10_layMuch_158 rfl ?_
            refine r_goto 163 dX10_layMuch_159 rfl ?_
            refine r_istore_n 164 rfl 2 [some (.ref 37), some (.int (nI s)), some (.int 1), some (.int (nI k)), some (.int (nI c)), some (.int (nI (w + 1))), some (.int (nI t)), some (.int ((nI (v c)) - (nI (sp_loss fd (so_ea kd) wi (w + 1) (g t)))))] dX10_layMuch_163 rfl (by decide) rfl ?_
            refine r_aload_n 165 rfl 0 dX10_layMuch_164 rfl rfl ?_
            refine r_getf (v := .ref 43) (k := 12) 168 rfl dX10_layMuch_165 (gf_X10_25_10 rfl) rfl rfl ?_
            refine r_iload 170 rfl dX10_layMuch_168 rfl ?_
            refine r_iload 172 rfl dX10_layMuch_170 rfl ?_
            refine r_aload_n 173 rfl 0 dX10_layMuch_172 rfl rfl ?_
            refine r_getf (v := .ref 43) (k := 12) 176 rfl dX10_layMuch_173 (gf_X10_25_10 rfl) rfl rfl ?_
            refine r_iload 178 rfl dX10_layMuch_176 rfl ?_
            refine r_iald (f := m' 43) 179 rfl t dX10_layMuch_178 rfl rfl (by omega) (by decide) ?_
            rw [show (m' 43) t = nI (v t) from hm t ht]
            refine r_icmp_le 182 187 rfl dX10_layMuch_179 rfl (fun c179 => ?_) (fun c179 => ?_)
            · have hnlt := (sp_rest (by omega) (by omega) (by omega)).1.mp c179
              refine r_aload_n 188 rfl 0 dX10_layMuch_187 rfl rfl ?_
              refine r_getf (v := .ref 43) (k := 12) 191 rfl dX10_layMuch_188 (gf_X10_25_10 rfl) rfl rfl ?_
              refine r_iload 193 rfl dX10_layMuch_191 rfl ?_
              refine r_iald (f := m' 43) 194 rfl t dX10_layMuch_193 rfl rfl (by omega) (by decide) ?_
              rw [show (m' 43) t = nI (v t) from hm t ht]
              refine w_iast 195 rfl t (va_up m' 43 (upd (m' 43) t (nI (v t)))) dX10_layMuch_194 (by decide) (by decide) (fun _ => rfl) rfl (by omega) (by decide) rfl ?_
              refine r_iinc 198 rfl (nI (k + 1)) [some (.ref 37), some (.int (nI s)), some (.int 1), some (.int (nI (k + 1))), some (.int (nI c)), some (.int (nI (w + 1))), some (.int (nI t)), some (.int ((nI (v c)) - (nI (sp_loss fd (so_ea kd) wi (w + 1) (g t)))))] dX10_layMuch_195 rfl (nI_1 _) (by decide) rfl ?_
              refine r_goto 61 dX10_layMuch_198 rfl ?_
              refine AW.drop 4 [some (.ref 37), some (.int (nI s)), some (.int 1), some (.int (nI (k + 1))), none, some (.int (nI (w + 1))), some (.int (nI t)), some (.int ((nI (v c)) - (nI (sp_loss fd (so_ea kd) wi (w + 1) (g t)))))] rfl ?_
              refine AW.drop 5 [some (.ref 37), some (.int (nI s)), some (.int 1), some (.int (nI (k + 1))), none, none, some (.int (nI t)), some (.int ((nI (v c)) - (nI (sp_loss fd (so_ea kd) wi (w + 1) (g t)))))] rfl ?_
              refine AW.drop 6 [some (.ref 37), some (.int (nI s)), some (.int 1), some (.int (nI (k + 1))), none, none, none, some (.int ((nI (v c)) - (nI (sp_loss fd (so_ea kd) wi (w + 1) (g t)))))] rfl ?_
              refine AW.drop 7 [some (.ref 37), some (.int (nI s)), some (.int 1), some (.int (nI (k + 1))), none, none, none, none] rfl ?_
              have e1 : sp_fire (sp_E g no_b fd (so_ea kd) wi) v c (w + 1) = false := by unfold sp_fire; rw [hE]; exact decide_eq_false (show ¬ v t + sp_loss fd (so_ea kd) wi (w + 1) (g t) < v c by omega)
              have e3 : sp_gk (sp_E g no_b fd (so_ea kd) wi) u (k + 1) = true := by rw [eg, hgk, e1]; rfl
              rw [show (1 : Int32) = (if sp_gk (sp_E g no_b fd (so_ea kd) wi) u (k + 1) = true then 1 else 0) by rw [if_pos (show sp_gk (sp_E g no_b fd (so_ea kd) wi) u (k + 1) = true by rw [e3]; try decide)]]
              refine ih (k + 1) (by omega) _ (fun j hj => ?_) (ag_up hag (by decide))
              rw [er, sp_st_eq e1, va_up_self]
              unfold upd
              by_cases hjt : j = t
              · subst hjt; rw [if_pos rfl]
              · rw [if_neg hjt]; exact hm j hj
            · have hlt : v t + sp_loss fd (so_ea kd) wi (w + 1) (g t) < v c := Nat.lt_of_not_le (fun q => c179 ((sp_rest (by omega) (by omega) (by omega)).1.mpr q))
              refine r_iload 184 rfl dX10_layMuch_182 rfl ?_
              refine r_goto 194 dX10_layMuch_184 rfl ?_
              rw [(sp_rest (a := v c) (l := sp_loss fd (so_ea kd) wi (w + 1) (g t)) (b := 0) (by omega) (by omega) (by omega)).2 (by omega)]
              refine w_iast 195 rfl t (va_up m' 43 (upd (m' 43) t (nI (v c - sp_loss fd (so_ea kd) wi (w + 1) (g t))))) dX10_layMuch_194 (by decide) (by decide) (fun _ => rfl) rfl (by omega) (by decide) rfl ?_
              refine r_iinc 198 rfl (nI (k + 1)) [some (.ref 37), some (.int (nI s)), some (.int 1), some (.int (nI (k + 1))), some (.int (nI c)), some (.int (nI (w + 1))), some (.int (nI t)), some (.int (nI (v c - sp_loss fd (so_ea kd) wi (w + 1) (g t))))] dX10_layMuch_195 rfl (nI_1 _) (by decide) rfl ?_
              refine r_goto 61 dX10_layMuch_198 rfl ?_
              refine AW.drop 4 [some (.ref 37), some (.int (nI s)), some (.int 1), some (.int (nI (k + 1))), none, some (.int (nI (w + 1))), some (.int (nI t)), some (.int (nI (v c - sp_loss fd (so_ea kd) wi (w + 1) (g t))))] rfl ?_
              refine AW.drop 5 [some (.ref 37), some (.int (nI s)), some (.int 1), some (.int (nI (k + 1))), none, none, some (.int (nI t)), some (.int (nI (v c - sp_loss fd (so_ea kd) wi (w + 1) (g t))))] rfl ?_
              refine AW.drop 6 [some (.ref 37), some (.int (nI s)), some (.int 1), some (.int (nI (k + 1))), none, none, none, some (.int (nI (v c - sp_loss fd (so_ea kd) wi (w + 1) (g t))))] rfl ?_
              refine AW.drop 7 [some (.ref 37), some (.int (nI s)), some (.int 1), some (.int (nI (k + 1))), none, none, none, none] rfl ?_
              have e1 : sp_fire (sp_E g no_b fd (so_ea kd) wi) v c (w + 1) = true := by unfold sp_fire; rw [hE]; exact decide_eq_true hlt
              have e3 : sp_gk (sp_E g no_b fd (so_ea kd) wi) u (k + 1) = true := by rw [eg, e1, Bool.or_true]
              have e2 : sp_st (sp_E g no_b fd (so_ea kd) wi) v c (w + 1) = va_up v t (v c - sp_loss fd (so_ea kd) wi (w + 1) (g t)) := by unfold sp_st; rw [hE]; exact if_pos hlt
              rw [show (1 : Int32) = (if sp_gk (sp_E g no_b fd (so_ea kd) wi) u (k + 1) = true then 1 else 0) by rw [if_pos e3]]
              refine ih (k + 1) (by omega) _ (fun j hj => ?_) (ag_up hag (by decide))
              rw [er, e2, va_up_self]
              unfold upd
              by_cases hjt : j = t
              · subst hjt; rw [if_pos rfl, va_up_self]
              · rw [if_neg hjt, va_up_ne _ _ hjt]; exact hm j hj
      · refine r_istore 88 rfl [some (.ref 37), some (.int (nI s)), some (.int 1), some (.int (nI k)), some (.int (nI c)), some (.int (nI (w + 1))), some (.int (-1)), none] dX10_layMuch_86 (by decide) rfl ?_
        refine r_iload 90 rfl dX10_layMuch_88 rfl ?_
        refine r_iconst 91 rfl (-1) dX10_layMuch_90 rfl ?_
        refine r_icmp_eq 94 195 rfl dX10_layMuch_91 rfl (fun _ => ?_) (fun q__ => absurd (by decide) q__)
        refine r_iinc 198 rfl (nI (k + 1)) [some (.ref 37), some (.int (nI s)), some (.int 1), some (.int (nI (k + 1))), some (.int (nI c)), some (.int (nI (w + 1))), some (.int (-1)), none] dX10_layMuch_195 rfl (nI_1 _) (by decide) rfl ?_
        refine r_goto 61 dX10_layMuch_198 rfl ?_
        refine AW.drop 4 [some (.ref 37), some (.int (nI s)), some (.int 1), some (.int (nI (k + 1))), none, some (.int (nI (w + 1))), some (.int (-1)), none] rfl ?_
        refine AW.drop 5 [some (.ref 37), some (.int (nI s)), some (.int 1), some (.int (nI (k + 1))), none, none, some (.int (-1)), none] rfl ?_
        refine AW.drop 6 [some (.ref 37), some (.int (nI s)), some (.int 1), some (.int (nI (k + 1))), none, none, none, none] rfl ?_
        have e1 : sp_fire (sp_E g no_b fd (so_ea kd) wi) v c (w + 1) = false := by unfold sp_fire; rw [show (sp_E g no_b fd (so_ea kd) wi) c (w + 1) = none by unfold sp_E; rw [hto]]
        have e3 : sp_gk (sp_E g no_b fd (so_ea kd) wi) u (k + 1) = true := by rw [eg, hgk, e1]; rfl
        rw [show (1 : Int32) = (if sp_gk (sp_E g no_b fd (so_ea kd) wi) u (k + 1) = true then 1 else 0) by rw [if_pos (show sp_gk (sp_E g no_b fd (so_ea kd) wi) u (k + 1) = true by rw [e3]; try decide)]]
        exact ih (k + 1) (by omega) m' (fun j hj => by rw [er, sp_st_eq e1]; exact hm j hj) hag
    · rw [if_neg (show ¬ sp_gk (sp_E g no_b fd (so_ea kd) wi) u k = true by rw [hgk]; decide)]
      refine r_iload_n 62 rfl 3 dX10_layMuch_61 rfl rfl ?_
      refine r_bipush 64 rfl 32 dX10_layMuch_62 (by decide) ?_
      refine r_icmp_ge 67 201 rfl dX10_layMuch_64 rfl (fun q__ => absurd q__ (fun q__ => absurd ((nI_leI (a := 32) (b := k) (by omega) (by omega)).mp q__) (by omega))) (fun _ => ?_)
      refine r_iload_n 68 rfl 3 dX10_layMuch_67 rfl rfl ?_
      refine r_iconst 69 rfl 4 dX10_layMuch_68 rfl ?_
      refine r_idiv 70 rfl dX10_layMuch_69 (by decide) ?_
      rw [show (nI k) / 4 = nI (k / 4) from pk_div (a := k) (d := 4) (by omega) (by decide) (by decide)]
      rw [hc]
      refine r_istore 72 rfl [some (.ref 37), some (.int (nI s)), some (.int 0), some (.int (nI k)), some (.int (nI c)), none, none, none] dX10_layMuch_70 (by decide) rfl ?_
      refine r_iload_n 73 rfl 3 dX10_layMuch_72 rfl rfl ?_
      refine r_iconst 74 rfl 4 dX10_layMuch_73 rfl ?_
      refine r_irem 75 rfl dX10_layMuch_74 (by decide) ?_
      rw [show (nI k) - (nI k) / 4 * 4 = nI (k % 4) from pk_rem (a := k) (d := 4) (by omega) (by decide) (by decide)]
      refine r_iconst 76 rfl 1 dX10_layMuch_75 rfl ?_
      refine r_iadd 77 rfl dX10_layMuch_76 ?_
      rw [show (nI (k % 4)) + 1 = nI ((k % 4) + 1) from nI_add (k % 4) 1]
      rw [hw]
      refine r_istore 79 rfl [some (.ref 37), some (.int (nI s)), some (.int 0), some (.int (nI k)), some (.int (nI c)), some (.int (nI (w + 1))), none, none] dX10_layMuch_77 (by decide) rfl ?_
      refine r_iload 81 rfl dX10_layMuch_79 rfl ?_
      refine r_iload 83 rfl dX10_layMuch_81 rfl ?_
      refine q_S 86 0 0 rfl [.int (nI c), .int (nI (w + 1))] rfl dX10_layMuch_83 cl_X10_layMuch__X10_beside (lk_X10_137 rfl) st_X10_beside (Nat.le_of_ble_eq_true rfl) (fun _ _ => Nat.le_of_ble_eq_true rfl) rfl rfl (Nat.le_of_ble_eq_true rfl) (Nat.le_of_ble_eq_true rfl) ?_
      refine c_X10_beside hc8 (by omega) (by omega) (fun t hto ht => (k_i ?_)) (fun hto => (k_i ?_))
      · have hvt := hub t
        have hgt := (hg' t ht).2
        refine r_istore 88 rfl [some (.ref 37), some (.int (nI s)), some (.int 0), some (.int (nI k)), some (.int (nI c)), some (.int (nI (w + 1))), some (.int (nI t)), none] dX10_layMuch_86 (by decide) rfl ?_
        refine r_iload 90 rfl dX10_layMuch_88 rfl ?_
        refine r_iconst 91 rfl (-1) dX10_layMuch_90 rfl ?_
        refine r_icmp_eq 94 195 rfl dX10_layMuch_91 rfl (fun q__ => absurd q__ (nI_m1 (by omega))) (fun _ => ?_)
        refine r_aload_n 95 rfl 0 dX10_layMuch_94 rfl rfl ?_
        refine r_getf (v := .ref 39) (k := 7) 98 rfl dX10_layMuch_95 (gf_X10_13_10 rfl) rfl rfl ?_
        refine r_iload 100 rfl dX10_layMuch_98 rfl ?_
        refine r_iald (f := m' 39) 101 rfl t dX10_layMuch_100 rfl rfl (by omega) (by decide) ?_
        rw [show (m' 39) t = nI (g t) from (hg' t ht).1]
        refine r_iconst 102 rfl 1 dX10_layMuch_101 rfl ?_
        refine r_icmp_eq 105 195 rfl dX10_layMuch_102 rfl (fun hwall => ?_) (fun hwall => ?_)
        · replace hwall : g t = 1 := (nI_eq (a := (g t)) (b := 1) (by omega) (by omega)).mp hwall
          refine r_iinc 198 rfl (nI (k + 1)) [some (.ref 37), some (.int (nI s)), some (.int 0), some (.int (nI (k + 1))), some (.int (nI c)), some (.int (nI (w + 1))), some (.int (nI t)), none] dX10_layMuch_195 rfl (nI_1 _) (by decide) rfl ?_
          refine r_goto 61 dX10_layMuch_198 rfl ?_
          refine AW.drop 4 [some (.ref 37), some (.int (nI s)), some (.int 0), some (.int (nI (k + 1))), none, some (.int (nI (w + 1))), some (.int (nI t)), none] rfl ?_
          refine AW.drop 5 [some (.ref 37), some (.int (nI s)), some (.int 0), some (.int (nI (k + 1))), none, none, some (.int (nI t)), none] rfl ?_
          refine AW.drop 6 [some (.ref 37), some (.int (nI s)), some (.int 0), some (.int (nI (k + 1))), none, none, none, none] rfl ?_
          have e1 : sp_fire (sp_E g no_b fd (so_ea kd) wi) v c (w + 1) = false := by unfold sp_fire; rw [show (sp_E g no_b fd (so_ea kd) wi) c (w + 1) = none by unfold sp_E; rw [hto]; exact if_pos (Or.inl hwall)]
          have e3 : sp_gk (sp_E g no_b fd (so_ea kd) wi) u (k + 1) = false := by rw [eg, hgk, e1]; rfl
          rw [show (0 : Int32) = (if sp_gk (sp_E g no_b fd (so_ea kd) wi) u (k + 1) = true then 1 else 0) by rw [if_neg (show ¬ sp_gk (sp_E g no_b fd (so_ea kd) wi) u (k + 1) = true by rw [e3]; try decide)]]
          exact ih (k + 1) (by omega) m' (fun j hj => by rw [er, sp_st_eq e1]; exact hm j hj) hag
        · replace hwall : ¬ (g t) = 1 := fun q__ => hwall ((nI_eq (a := (g t)) (b := 1) (by omega) (by omega)).mpr q__)
          refine r_aload_n 106 rfl 0 dX10_layMuch_105 rfl rfl ?_
          refine r_getf (v := .ref 43) (k := 12) 109 rfl dX10_layMuch_106 (gf_X10_25_10 rfl) rfl rfl ?_
          refine r_iload 111 rfl dX10_layMuch_109 rfl ?_
          refine r_iald (f := m' 43) 112 rfl c dX10_layMuch_111 rfl rfl (by omega) (by decide) ?_
          rw [show (m' 43) c = nI (v c) from hm c hc8]
          refine r_if_le 115 195 rfl dX10_layMuch_112 rfl (fun c112 => ?_) (fun c112 => ?_)
          · replace c112 : v c ≤ 0 := (nI_leI (a := (v c)) (b := 0) (by omega) (by omega)).mp c112
            refine r_iinc 198 rfl (nI (k + 1)) [some (.ref 37), some (.int (nI s)), some (.int 0), some (.int (nI (k + 1))), some (.int (nI c)), some (.int (nI (w + 1))), some (.int (nI t)), none] dX10_layMuch_195 rfl (nI_1 _) (by decide) rfl ?_
            refine r_goto 61 dX10_layMuch_198 rfl ?_
            refine AW.drop 4 [some (.ref 37), some (.int (nI s)), some (.int 0), some (.int (nI (k + 1))), none, some (.int (nI (w + 1))), some (.int (nI t)), none] rfl ?_
            refine AW.drop 5 [some (.ref 37), some (.int (nI s)), some (.int 0), some (.int (nI (k + 1))), none, none, some (.int (nI t)), none] rfl ?_
            refine AW.drop 6 [some (.ref 37), some (.int (nI s)), some (.int 0), some (.int (nI (k + 1))), none, none, none, none] rfl ?_
            have e1 : sp_fire (sp_E g no_b fd (so_ea kd) wi) v c (w + 1) = false := by exact sp_fire_0 (by omega)
            have e3 : sp_gk (sp_E g no_b fd (so_ea kd) wi) u (k + 1) = false := by rw [eg, hgk, e1]; rfl
            rw [show (0 : Int32) = (if sp_gk (sp_E g no_b fd (so_ea kd) wi) u (k + 1) = true then 1 else 0) by rw [if_neg (show ¬ sp_gk (sp_E g no_b fd (so_ea kd) wi) u (k + 1) = true by rw [e3]; try decide)]]
            exact ih (k + 1) (by omega) m' (fun j hj => by rw [er, sp_st_eq e1]; exact hm j hj) hag
          · replace c112 : ¬ (v c) ≤ 0 := fun q__ => c112 ((nI_leI (a := (v c)) (b := 0) (by omega) (by omega)).mpr q__)
            have hE : (sp_E g no_b fd (so_ea kd) wi) c (w + 1) = some (t, sp_loss fd (so_ea kd) wi (w + 1) (g t)) := by unfold sp_E; rw [hto]; exact if_neg (fun q => q.elim hwall (fun q2 => by cases q2))
            refine r_aload_n 116 rfl 0 dX10_layMuch_115 rfl rfl ?_
            refine r_getf (v := .ref 43) (k := 12) 119 rfl dX10_layMuch_116 (gf_X10_25_10 rfl) rfl rfl ?_
            refine r_iload 121 rfl dX10_layMuch_119 rfl ?_
            refine r_iald (f := m' 43) 122 rfl c dX10_layMuch_121 rfl rfl (by omega) (by decide) ?_
            rw [show (m' 43) c = nI (v c) from hm c hc8]
            refine r_aload_n 123 rfl 0 dX10_layMuch_122 rfl rfl ?_
            refine r_aload_n 124 rfl 0 dX10_layMuch_123 rfl rfl ?_
            refine r_getf (v := .ref 42) (k := 11) 127 rfl dX10_layMuch_124 (gf_X10_22_10 rfl) rfl rfl ?_
            refine r_bipush 129 rfl 6 dX10_layMuch_127 (by decide) ?_
            refine r_iload_n 130 rfl 1 dX10_layMuch_129 rfl rfl ?_
            refine r_imul 131 rfl dX10_layMuch_130 ?_
            rw [show 6 * (nI s) = nI (6 * s) from pk_mul 6 s]
            refine r_iald (f := m' 42) 132 rfl (6 * s) dX10_layMuch_131 rfl rfl (by omega) (by decide) ?_
            rw [show (m' 42) (6 * s) = nI kd from hkd']
            refine r_iload 134 rfl dX10_layMuch_132 rfl ?_
            refine r_iload 136 rfl dX10_layMuch_134 rfl ?_
            refine q_V 139 0 0 rfl [.int (nI kd), .int (nI (w + 1)), .int (nI t)] rfl dX10_layMuch_136 cl_X10_layMuch__X10_lossOf (lk_X10_141 rfl) im_X10_lossOf (ci := 10) rfl sl_X10__X10_lossOf rfl (Nat.le_of_ble_eq_true rfl) (fun _ _ => Nat.le_of_ble_eq_true rfl) rfl rfl (Nat.le_of_ble_eq_true rfl) (Nat.le_of_ble_eq_true rfl) ?_
            refine c_X10_lossOf g hg' hfd' hf1 hf3 hk4 ht (by omega) (by omega) hwi' hwi4 (k_i ?_)
            have hll := sp_loss_le (ea := so_ea kd) (wi := wi) (w := w + 1) (g := g t) hf3
            refine r_isub 140 rfl dX10_layMuch_139 ?_
            refine r_istore 142 rfl [some (.ref 37), some (.int (nI s)), some (.int 0), some (.int (nI k)), some (.int (nI c)), some (.int (nI (w + 1))), some (.int (nI t)), some (.int ((nI (v c)) - (nI (sp_loss fd (so_ea kd) wi (w + 1) (g t)))))] dX10_layMuch_140 (by decide) rfl ?_
            refine r_iload_n 143 rfl 2 dX10_layMuch_142 rfl rfl ?_
            refine r_if_ne 146 158 rfl dX10_layMuch_143 rfl (fun q__ => absurd (by decide) q__) (fun _ => ?_)
            refine r_iload 148 rfl dX10_layMuch_146 rfl ?_
            refine r_aload_n 149 rfl 0 dX10_layMuch_148 rfl rfl ?_
            refine r_getf (v := .ref 43) (k := 12) 152 rfl dX10_layMuch_149 (gf_X10_25_10 rfl) rfl rfl ?_
            refine r_iload 154 rfl dX10_layMuch_152 rfl ?_
            refine r_iald (f := m' 43) 155 rfl t dX10_layMuch_154 rfl rfl (by omega) (by decide) ?_
            rw [show (m' 43) t = nI (v t) from hm t ht]
            refine r_icmp_le 158 162 rfl dX10_layMuch_155 rfl (fun c155 => ?_) (fun c155 => ?_)
            · have hnlt := (sp_rest (by omega) (by omega) (by omega)).1.mp c155
              refine r_iconst 163 rfl 0 dX10_layMuch_162 rfl ?_
              refine r_istore_n 164 rfl 2 [some (.ref 37), some (.int (nI s)), some (.int 0), some (.int (nI k)), some (.int (nI c)), some (.int (nI (w + 1))), some (.int (nI t)), some (.int ((nI (v c)) - (nI (sp_loss fd (so_ea kd) wi (w + 1) (g t)))))] dX10_layMuch_163 rfl (by decide) rfl ?_
              refine r_aload_n 165 rfl 0 dX10_layMuch_164 rfl rfl ?_
              refine r_getf (v := .ref 43) (k := 12) 168 rfl dX10_layMuch_165 (gf_X10_25_10 rfl) rfl rfl ?_
              refine r_iload 170 rfl dX10_layMuch_168 rfl ?_
              refine r_iload 172 rfl dX10_layMuch_170 rfl ?_
              refine r_aload_n 173 rfl 0 dX10_layMuch_172 rfl rfl ?_
              refine r_getf (v := .ref 43) (k := 12) 176 rfl dX10_layMuch_173 (gf_X10_25_10 rfl) rfl rfl ?_
              refine r_iload 178 rfl dX10_layMuch_176 rfl ?_
              refine r_iald (f := m' 43) 179 rfl t dX10_layMuch_178 rfl rfl (by omega) (by decide) ?_
              rw [show (m' 43) t = nI (v t) from hm t ht]
              refine r_icmp_le 182 187 rfl dX10_layMuch_179 rfl (fun _ => ?_) (fun q__ => absurd c155 q__)
              refine r_aload_n 188 rfl 0 dX10_layMuch_187 rfl rfl ?_
              refine r_getf (v := .ref 43) (k := 12) 191 rfl dX10_layMuch_188 (gf_X10_25_10 rfl) rfl rfl ?_
              refine r_iload 193 rfl dX10_layMuch_191 rfl ?_
              refine r_iald (f := m' 43) 194 rfl t dX10_layMuch_193 rfl rfl (by omega) (by decide) ?_
              rw [show (m' 43) t = nI (v t) from hm t ht]
              refine w_iast 195 rfl t (va_up m' 43 (upd (m' 43) t (nI (v t)))) dX10_layMuch_194 (by decide) (by decide) (fun _ => rfl) rfl (by omega) (by decide) rfl ?_
              refine r_iinc 198 rfl (nI (k + 1)) [some (.ref 37), some (.int (nI s)), some (.int 0), some (.int (nI (k + 1))), some (.int (nI c)), some (.int (nI (w + 1))), some (.int (nI t)), some (.int ((nI (v c)) - (nI (sp_loss fd (so_ea kd) wi (w + 1) (g t)))))] dX10_layMuch_195 rfl (nI_1 _) (by decide) rfl ?_
              refine r_goto 61 dX10_layMuch_198 rfl ?_
              refine AW.drop 4 [some (.ref 37), some (.int (nI s)), some (.int 0), some (.int (nI (k + 1))), none, some (.int (nI (w + 1))), some (.int (nI t)), some (.int ((nI (v c)) - (nI (sp_loss fd (so_ea kd) wi (w + 1) (g t)))))] rfl ?_
              refine AW.drop 5 [some (.ref 37), some (.int (nI s)), some (.int 0), some (.int (nI (k + 1))), none, none, some (.int (nI t)), some (.int ((nI (v c)) - (nI (sp_loss fd (so_ea kd) wi (w + 1) (g t)))))] rfl ?_
              refine AW.drop 6 [some (.ref 37), some (.int (nI s)), some (.int 0), some (.int (nI (k + 1))), none, none, none, some (.int ((nI (v c)) - (nI (sp_loss fd (so_ea kd) wi (w + 1) (g t)))))] rfl ?_
              refine AW.drop 7 [some (.ref 37), some (.int (nI s)), some (.int 0), some (.int (nI (k + 1))), none, none, none, none] rfl ?_
              have e1 : sp_fire (sp_E g no_b fd (so_ea kd) wi) v c (w + 1) = false := by unfold sp_fire; rw [hE]; exact decide_eq_false (show ¬ v t + sp_loss fd (so_ea kd) wi (w + 1) (g t) < v c by omega)
              have e3 : sp_gk (sp_E g no_b fd (so_ea kd) wi) u (k + 1) = false := by rw [eg, hgk, e1]; rfl
              rw [show (0 : Int32) = (if sp_gk (sp_E g no_b fd (so_ea kd) wi) u (k + 1) = true then 1 else 0) by rw [if_neg (show ¬ sp_gk (sp_E g no_b fd (so_ea kd) wi) u (k + 1) = true by rw [e3]; try decide)]]
              refine ih (k + 1) (by omega) _ (fun j hj => ?_) (ag_up hag (by decide))
              rw [er, sp_st_eq e1, va_up_self]
              unfold upd
              by_cases hjt : j = t
              · subst hjt; rw [if_pos rfl]
              · rw [if_neg hjt]; exact hm j hj
            · have hlt : v t + sp_loss fd (so_ea kd) wi (w + 1) (g t) < v c := Nat.lt_of_not_le (fun q => c155 ((sp_rest (by omega) (by omega) (by omega)).1.mpr q))
              refine r_iconst 159 rfl 1 dX10_layMuch_158 rfl ?_
              refine r_goto 163 dX10_layMuch_159 rfl ?_
              refine r_istore_n 164 rfl 2 [some (.ref 37), some (.int (nI s)), some (.int 1), some (.int (nI k)), some (.int (nI c)), some (.int (nI (w + 1))), some (.int (nI t)), some (.int ((nI (v c)) - (nI (sp_loss fd (so_ea kd) wi (w + 1) (g t)))))] dX10_layMuch_163 rfl (by decide) rfl ?_
              refine r_aload_n 165 rfl 0 dX10_layMuch_164 rfl rfl ?_
              refine r_getf (v := .ref 43) (k := 12) 168 rfl dX10_layMuch_165 (gf_X10_25_10 rfl) rfl rfl ?_
              refine r_iload 170 rfl dX10_layMuch_168 rfl ?_
              refine r_iload 172 rfl dX10_layMuch_170 rfl ?_
              refine r_aload_n 173 rfl 0 dX10_layMuch_172 rfl rfl ?_
              refine r_getf (v := .ref 43) (k := 12) 176 rfl dX10_layMuch_173 (gf_X10_25_10 rfl) rfl rfl ?_
              refine r_iload 178 rfl dX10_layMuch_176 rfl ?_
              refine r_iald (f := m' 43) 179 rfl t dX10_layMuch_178 rfl rfl (by omega) (by decide) ?_
              rw [show (m' 43) t = nI (v t) from hm t ht]
              refine r_icmp_le 182 187 rfl dX10_layMuch_179 rfl (fun q__ => absurd q__ c155) (fun _ => ?_)
              refine r_iload 184 rfl dX10_layMuch_182 rfl ?_
              refine r_goto 194 dX10_layMuch_184 rfl ?_
              rw [(sp_rest (a := v c) (l := sp_loss fd (so_ea kd) wi (w + 1) (g t)) (b := 0) (by omega) (by omega) (by omega)).2 (by omega)]
              refine w_iast 195 rfl t (va_up m' 43 (upd (m' 43) t (nI (v c - sp_loss fd (so_ea kd) wi (w + 1) (g t))))) dX10_layMuch_194 (by decide) (by decide) (fun _ => rfl) rfl (by omega) (by decide) rfl ?_
              refine r_iinc 198 rfl (nI (k + 1)) [some (.ref 37), some (.int (nI s)), some (.int 1), some (.int (nI (k + 1))), some (.int (nI c)), some (.int (nI (w + 1))), some (.int (nI t)), some (.int (nI (v c - sp_loss fd (so_ea kd) wi (w + 1) (g t))))] dX10_layMuch_195 rfl (nI_1 _) (by decide) rfl ?_
              refine r_goto 61 dX10_layMuch_198 rfl ?_
              refine AW.drop 4 [some (.ref 37), some (.int (nI s)), some (.int 1), some (.int (nI (k + 1))), none, some (.int (nI (w + 1))), some (.int (nI t)), some (.int (nI (v c - sp_loss fd (so_ea kd) wi (w + 1) (g t))))] rfl ?_
              refine AW.drop 5 [some (.ref 37), some (.int (nI s)), some (.int 1), some (.int (nI (k + 1))), none, none, some (.int (nI t)), some (.int (nI (v c - sp_loss fd (so_ea kd) wi (w + 1) (g t))))] rfl ?_
              refine AW.drop 6 [some (.ref 37), some (.int (nI s)), some (.int 1), some (.int (nI (k + 1))), none, none, none, some (.int (nI (v c - sp_loss fd (so_ea kd) wi (w + 1) (g t))))] rfl ?_
              refine AW.drop 7 [some (.ref 37), some (.int (nI s)), some (.int 1), some (.int (nI (k + 1))), none, none, none, none] rfl ?_
              have e1 : sp_fire (sp_E g no_b fd (so_ea kd) wi) v c (w + 1) = true := by unfold sp_fire; rw [hE]; exact decide_eq_true hlt
              have e3 : sp_gk (sp_E g no_b fd (so_ea kd) wi) u (k + 1) = true := by rw [eg, e1, Bool.or_true]
              have e2 : sp_st (sp_E g no_b fd (so_ea kd) wi) v c (w + 1) = va_up v t (v c - sp_loss fd (so_ea kd) wi (w + 1) (g t)) := by unfold sp_st; rw [hE]; exact if_pos hlt
              rw [show (1 : Int32) = (if sp_gk (sp_E g no_b fd (so_ea kd) wi) u (k + 1) = true then 1 else 0) by rw [if_pos e3]]
              refine ih (k + 1) (by omega) _ (fun j hj => ?_) (ag_up hag (by decide))
              rw [er, e2, va_up_self]
              unfold upd
              by_cases hjt : j = t
              · subst hjt; rw [if_pos rfl, va_up_self]
              · rw [if_neg hjt, va_up_ne _ _ hjt]; exact hm j hj
      · refine r_istore 88 rfl [some (.ref 37), some (.int (nI s)), some (.int 0), some (.int (nI k)), some (.int (nI c)), some (.int (nI (w + 1))), some (.int (-1)), none] dX10_layMuch_86 (by decide) rfl ?_
        refine r_iload 90 rfl dX10_layMuch_88 rfl ?_
        refine r_iconst 91 rfl (-1) dX10_layMuch_90 rfl ?_
        refine r_icmp_eq 94 195 rfl dX10_layMuch_91 rfl (fun _ => ?_) (fun q__ => absurd (by decide) q__)
        refine r_iinc 198 rfl (nI (k + 1)) [some (.ref 37), some (.int (nI s)), some (.int 0), some (.int (nI (k + 1))), some (.int (nI c)), some (.int (nI (w + 1))), some (.int (-1)), none] dX10_layMuch_195 rfl (nI_1 _) (by decide) rfl ?_
        refine r_goto 61 dX10_layMuch_198 rfl ?_
        refine AW.drop 4 [some (.ref 37), some (.int (nI s)), some (.int 0), some (.int (nI (k + 1))), none, some (.int (nI (w + 1))), some (.int (-1)), none] rfl ?_
        refine AW.drop 5 [some (.ref 37), some (.int (nI s)), some (.int 0), some (.int (nI (k + 1))), none, none, some (.int (-1)), none] rfl ?_
        refine AW.drop 6 [some (.ref 37), some (.int (nI s)), some (.int 0), some (.int (nI (k + 1))), none, none, none, none] rfl ?_
        have e1 : sp_fire (sp_E g no_b fd (so_ea kd) wi) v c (w + 1) = false := by unfold sp_fire; rw [show (sp_E g no_b fd (so_ea kd) wi) c (w + 1) = none by unfold sp_E; rw [hto]]
        have e3 : sp_gk (sp_E g no_b fd (so_ea kd) wi) u (k + 1) = false := by rw [eg, hgk, e1]; rfl
        rw [show (0 : Int32) = (if sp_gk (sp_E g no_b fd (so_ea kd) wi) u (k + 1) = true then 1 else 0) by rw [if_neg (show ¬ sp_gk (sp_E g no_b fd (so_ea kd) wi) u (k + 1) = true by rw [e3]; try decide)]]
        exact ih (k + 1) (by omega) m' (fun j hj => by rw [er, sp_st_eq e1]; exact hm j hj) hag

set_option maxHeartbeats 4000000 in
set_option maxRecDepth 20000 in
theorem lp_layMuch1 {Q : am_P} {z : am_Z} {m : Nat → Nat → Int32} {n : Nat} (g : Nat → Nat) (hg : ∀ j, j < 8 → m 39 j = nI (g j) ∧ g j ≤ 2) {fd : Nat} (hfd : m 37 2 = nI fd) (hf1 : 1 ≤ fd) (hf3 : fd ≤ 3) {s kd wi : Nat} (hs : s < 7) (hkd : m 42 (6 * s) = nI kd) (hk4 : kd ≤ 4) (hwi : m 37 3 = nI wi) (hwi4 : wi ≤ 4) {ce F : Nat} (hce : ce < 8) (hF : F ≤ 9) (k : ∀ m', (∀ j, j < 8 → m' 43 j = nI (sp_A (sp_E g no_b fd (so_ea kd) wi) ce F j)) → ag [43] m m' → Q none (wd z m') n) : ∀ (d q : Nat), q + d = 8 → ∀ m', (∀ j, j < 8 → m' 43 j = nI (sp_i (sp_E g no_b fd (so_ea kd) wi) (sp_0 ce F) q j)) → ag [43] m m' → AW mX10_layMuch Q 53 [some (.ref 37), some (.int (nI s)), some (.int 1), none, none, none, none, none] [] (wd z m') n 0 0 := by
  intro d
  induction d with
  | zero =>
    intro q hq m' hm hag
    have hq : q = 8 := by omega
    subst hq
    have hg' : ∀ j, j < 8 → m' 39 j = nI (g j) ∧ g j ≤ 2 := fun j hj => by rw [hag 39 (by decide)]; exact hg j hj
    have hfd' : m' 37 2 = nI fd := by rw [hag 37 (by decide)]; exact hfd
    have hwi' : m' 37 3 = nI wi := by rw [hag 37 (by decide)]; exact hwi
    have hkd' : m' 42 (6 * s) = nI kd := by rw [hag 42 (by decide)]; exact hkd
    have hub := sp_i_le (E := (sp_E g no_b fd (so_ea kd) wi)) (fun j => Nat.le_trans (sp_0_le ce F j) hF) 8
    have er : sp_i (sp_E g no_b fd (so_ea kd) wi) (sp_0 ce F) (8 + 1) = sp_r (sp_E g no_b fd (so_ea kd) wi) (sp_i (sp_E g no_b fd (so_ea kd) wi) (sp_0 ce F) 8) 8 := rfl
    have est : sp_gr (sp_E g no_b fd (so_ea kd) wi) (sp_i (sp_E g no_b fd (so_ea kd) wi) (sp_0 ce F) 8) 8 = false → sp_r (sp_E g no_b fd (so_ea kd) wi) (sp_i (sp_E g no_b fd (so_ea kd) wi) (sp_0 ce F) 8) 8 = sp_A (sp_E g no_b fd (so_ea kd) wi) ce F := fun hgr => (sp_r_eq 8 hgr).trans (sp_A_stop (by omega) hgr)
    have hdone : sp_gr (sp_E g no_b fd (so_ea kd) wi) (sp_i (sp_E g no_b fd (so_ea kd) wi) (sp_0 ce F) 8) 8 = false := sp_E_done hce
    generalize hv : sp_i (sp_E g no_b fd (so_ea kd) wi) (sp_0 ce F) 8 = v at hm hub er est hdone
    refine r_iload_n 54 rfl 2 dX10_layMuch_53 rfl rfl ?_
    refine r_if_eq 57 204 rfl dX10_layMuch_54 rfl (fun q__ => absurd q__ (by decide)) (fun _ => ?_)
    refine r_iconst 58 rfl 0 dX10_layMuch_57 rfl ?_
    refine r_istore_n 59 rfl 2 [some (.ref 37), some (.int (nI s)), some (.int 0), none, none, none, none, none] dX10_layMuch_58 rfl (by decide) rfl ?_
    refine r_iconst 60 rfl 0 dX10_layMuch_59 rfl ?_
    refine r_istore_n 61 rfl 3 [some (.ref 37), some (.int (nI s)), some (.int 0), some (.int 0), none, none, none, none] dX10_layMuch_60 rfl (by decide) rfl ?_
    rw [show (0 : Int32) = (if sp_gk (sp_E g no_b fd (so_ea kd) wi) v 0 = true then 1 else 0) from rfl]
    refine lp_layMuch2 g hg' hfd' hf1 hf3 hs hkd' hk4 hwi' hwi4 v hub (fun m2 hm2 hag2 => ?_) 32 0 rfl m' (fun j hj => hm j hj) (ag_r _ _)
    have hag3 : ag [43] m m2 := ag_t hag hag2 (by simp)
    rw [sp_k_32.1] at hm2
    rw [sp_k_32.2]
    rw [if_neg (show ¬ sp_gr (sp_E g no_b fd (so_ea kd) wi) v 8 = true by rw [hdone]; decide)]
    refine r_goto 53 dX10_layMuch_201 rfl ?_
    refine r_iload_n 54 rfl 2 dX10_layMuch_53 rfl rfl ?_
    refine r_if_eq 57 204 rfl dX10_layMuch_54 rfl (fun _ => ?_) (fun q__ => absurd (by decide) q__)
    refine r_return rfl dX10_layMuch_204 (Nat.le_of_ble_eq_true rfl) (Nat.le_of_ble_eq_true rfl) ?_
    exact k m2 (fun j hj => by rw [← est hdone]; exact hm2 j hj) hag3
  | succ d ih =>
    intro q hq m' hm hag
    have hg' : ∀ j, j < 8 → m' 39 j = nI (g j) ∧ g j ≤ 2 := fun j hj => by rw [hag 39 (by decide)]; exact hg j hj
    have hfd' : m' 37 2 = nI fd := by rw [hag 37 (by decide)]; exact hfd
    have hwi' : m' 37 3 = nI wi := by rw [hag 37 (by decide)]; exact hwi
    have hkd' : m' 42 (6 * s) = nI kd := by rw [hag 42 (by decide)]; exact hkd
    have hub := sp_i_le (E := (sp_E g no_b fd (so_ea kd) wi)) (fun j => Nat.le_trans (sp_0_le ce F j) hF) q
    have er : sp_i (sp_E g no_b fd (so_ea kd) wi) (sp_0 ce F) (q + 1) = sp_r (sp_E g no_b fd (so_ea kd) wi) (sp_i (sp_E g no_b fd (so_ea kd) wi) (sp_0 ce F) q) 8 := rfl
    have est : sp_gr (sp_E g no_b fd (so_ea kd) wi) (sp_i (sp_E g no_b fd (so_ea kd) wi) (sp_0 ce F) q) 8 = false → sp_r (sp_E g no_b fd (so_ea kd) wi) (sp_i (sp_E g no_b fd (so_ea kd) wi) (sp_0 ce F) q) 8 = sp_A (sp_E g no_b fd (so_ea kd) wi) ce F := fun hgr => (sp_r_eq 8 hgr).trans (sp_A_stop (by omega) hgr)
    generalize hv : sp_i (sp_E g no_b fd (so_ea kd) wi) (sp_0 ce F) q = v at hm hub er est
    refine r_iload_n 54 rfl 2 dX10_layMuch_53 rfl rfl ?_
    refine r_if_eq 57 204 rfl dX10_layMuch_54 rfl (fun q__ => absurd q__ (by decide)) (fun _ => ?_)
    refine r_iconst 58 rfl 0 dX10_layMuch_57 rfl ?_
    refine r_istore_n 59 rfl 2 [some (.ref 37), some (.int (nI s)), some (.int 0), none, none, none, none, none] dX10_layMuch_58 rfl (by decide) rfl ?_
    refine r_iconst 60 rfl 0 dX10_layMuch_59 rfl ?_
    refine r_istore_n 61 rfl 3 [some (.ref 37), some (.int (nI s)), some (.int 0), some (.int 0), none, none, none, none] dX10_layMuch_60 rfl (by decide) rfl ?_
    rw [show (0 : Int32) = (if sp_gk (sp_E g no_b fd (so_ea kd) wi) v 0 = true then 1 else 0) from rfl]
    refine lp_layMuch2 g hg' hfd' hf1 hf3 hs hkd' hk4 hwi' hwi4 v hub (fun m2 hm2 hag2 => ?_) 32 0 rfl m' (fun j hj => hm j hj) (ag_r _ _)
    have hag3 : ag [43] m m2 := ag_t hag hag2 (by simp)
    rw [sp_k_32.1] at hm2
    rw [sp_k_32.2]
    rcases Bool.eq_false_or_eq_true (sp_gr (sp_E g no_b fd (so_ea kd) wi) v 8) with hgr | hgr
    · rw [if_pos hgr]
      refine r_goto 53 dX10_layMuch_201 rfl ?_
      exact ih (q + 1) (by omega) m2 (fun j hj => by rw [er]; exact hm2 j hj) hag3
    · rw [if_neg (show ¬ sp_gr (sp_E g no_b fd (so_ea kd) wi) v 8 = true by rw [hgr]; decide)]
      refine r_goto 53 dX10_layMuch_201 rfl ?_
      refine r_iload_n 54 rfl 2 dX10_layMuch_53 rfl rfl ?_
      refine r_if_eq 57 204 rfl dX10_layMuch_54 rfl (fun _ => ?_) (fun q__ => absurd (by decide) q__)
      refine r_return rfl dX10_layMuch_204 (Nat.le_of_ble_eq_true rfl) (Nat.le_of_ble_eq_true rfl) ?_
      exact k m2 (fun j hj => by rw [← est hgr]; exact hm2 j hj) hag3

set_option maxHeartbeats 4000000 in
set_option maxRecDepth 20000 in
theorem lp_layMuch0 {Q : am_P} {z : am_Z} {m : Nat → Nat → Int32} {n : Nat} {s : Nat} (kx : ∀ m', (∀ j, j < 8 → m' 43 j = 0) → ag [43] m m' → AW mX10_layMuch Q 21 [some (.ref 37), some (.int (nI s)), none, none, none, none, none, none] [] (wd z m') n 0 0) : ∀ (d c : Nat), c + d = 8 → ∀ m', (∀ j, j < c → m' 43 j = 0) → ag [43] m m' → AW mX10_layMuch Q 2 [some (.ref 37), some (.int (nI s)), some (.int (nI c)), none, none, none, none, none] [] (wd z m') n 0 0 := by
  intro d
  induction d with
  | zero =>
    intro c hc m' hm hag
    have hc : c = 8 := by omega
    subst hc
    refine r_iload_n 3 rfl 2 dX10_layMuch_2 rfl rfl ?_
    refine r_bipush 5 rfl 8 dX10_layMuch_3 (by decide) ?_
    refine r_icmp_ge 8 21 rfl dX10_layMuch_5 rfl (fun _ => ?_) (fun q__ => absurd ((nI_leI (a := 8) (b := 8) (by omega) (by omega)).mpr (by omega)) q__)
    refine AW.drop 2 [some (.ref 37), some (.int (nI s)), none, none, none, none, none, none] rfl ?_
    exact kx m' hm hag
  | succ d ih =>
    intro c hc m' hm hag
    refine r_iload_n 3 rfl 2 dX10_layMuch_2 rfl rfl ?_
    refine r_bipush 5 rfl 8 dX10_layMuch_3 (by decide) ?_
    refine r_icmp_ge 8 21 rfl dX10_layMuch_5 rfl (fun q__ => absurd q__ (fun q__ => absurd ((nI_leI (a := 8) (b := c) (by omega) (by omega)).mp q__) (by omega))) (fun _ => ?_)
    refine r_aload_n 9 rfl 0 dX10_layMuch_8 rfl rfl ?_
    refine r_getf (v := .ref 43) (k := 12) 12 rfl dX10_layMuch_9 (gf_X10_25_10 rfl) rfl rfl ?_
    refine r_iload_n 13 rfl 2 dX10_layMuch_12 rfl rfl ?_
    refine r_iconst 14 rfl 0 dX10_layMuch_13 rfl ?_
    refine w_iast 15 rfl c (va_up m' 43 (upd (m' 43) c 0)) dX10_layMuch_14 (by decide) (by decide) (fun _ => rfl) rfl (by omega) (by decide) rfl ?_
    refine r_iinc 18 rfl (nI (c + 1)) [some (.ref 37), some (.int (nI s)), some (.int (nI (c + 1))), none, none, none, none, none] dX10_layMuch_15 rfl (nI_1 _) (by decide) rfl ?_
    refine r_goto 2 dX10_layMuch_18 rfl ?_
    refine ih (c + 1) (by omega) _ (fun j hj => ?_) (ag_up hag (by decide))
    rw [va_up_self]
    unfold upd
    by_cases hjc : j = c
    · rw [if_pos hjc]
    · rw [if_neg hjc]; exact hm j (by omega)

def MR (m : Nat → Nat → Int32) (ns : Nat) (kd pa ce sg bn bt : Nat → Nat) : Prop := ∀ s, s < ns → (m 42 (6 * s) = nI (kd s) ∧ m 42 (6 * s + 1) = nI (pa s) ∧ m 42 (6 * s + 2) = nI (ce s) ∧ m 42 (6 * s + 3) = nI (sg s) ∧ m 42 (6 * s + 4) = nI (bn s) ∧ m 42 (6 * s + 5) = nI (bt s)) ∧ kd s ≤ 4 ∧ pa s < 3 ∧ ce s < 8 ∧ sg s ≤ 9 ∧ bn s ≤ 1 ∧ bt s < 2 ^ 30
theorem MR_ag {m m' : Nat → Nat → Int32} {ns : Nat} {kd pa ce sg bn bt : Nat → Nat} (h : MR m ns kd pa ce sg bn bt) (e : m' 42 = m 42) : MR m' ns kd pa ce sg bn bt := by
  intro s hs
  rw [e]
  exact h s hs

set_option maxHeartbeats 4000000 in
set_option maxRecDepth 20000 in
theorem c_layMuch {Q : am_P} {z : am_Z} {m : Nat → Nat → Int32} {n : Nat} (g : Nat → Nat) (hg : ∀ j, j < 8 → m 39 j = nI (g j) ∧ g j ≤ 2) {fd : Nat} (hfd : m 37 2 = nI fd) (hf3 : fd ≤ 3) {ns wi hr fr : Nat} {kd pa ce sg bn bt : Nat → Nat} (hf1 : 0 < ns → 1 ≤ fd) (hn7 : ns ≤ 7) (hmr : MR m ns kd pa ce sg bn bt) (hwi : m 37 3 = nI wi) (hwi4 : wi ≤ 4) (hfr : m 37 4 = nI fr) (hr1 : fr ≤ 1) (hhr : m 37 5 = nI hr) (hh : hr < 2 ^ 30) {s : Nat} (hs : s < ns) (k : ∀ m', (∀ j, j < 8 → m' 43 j = nI ((so_am g no_b fd wi hr fr kd ce sg bn bt) s j)) → ag [43] m m' → Q none (wd z m') n) : AW mX10_layMuch Q 0 (am_ent (am_l mX10_layMuch) [.ref 37, .int (nI s)]) [] (wd z m) n 0 0 := by
  show AW _ _ 0 [some (.ref 37), some (.int (nI s)), none, none, none, none, none, none] [] _ _ 0 0
  obtain ⟨⟨e0, e1, e2, e3, e4, e5⟩, hk4, hp3, hc8, hs9, hb1, hbt⟩ := hmr s hs
  have hf1' := hf1 (by omega)
  refine r_iconst 1 rfl 0 dX10_layMuch_0 rfl ?_
  refine r_istore_n 2 rfl 2 [some (.ref 37), some (.int (nI s)), some (.int 0), none, none, none, none, none] dX10_layMuch_1 rfl (by decide) rfl ?_
  refine lp_layMuch0 (fun m1 hm1 hag1 => ?_) 8 0 rfl m (fun j hj => absurd hj (Nat.not_lt_zero j)) (ag_r _ _)
  have h42 : m1 42 = m 42 := hag1 42 (by decide)
  have h37 : m1 37 = m 37 := hag1 37 (by decide)
  have hg' : ∀ j, j < 8 → m1 39 j = nI (g j) ∧ g j ≤ 2 := fun j hj => by rw [hag1 39 (by decide)]; exact hg j hj
  rw [← h42] at e0 e1 e2 e3 e4 e5
  rw [← h37] at hfd hwi hfr hhr
  refine r_aload_n 22 rfl 0 dX10_layMuch_21 rfl rfl ?_
  refine r_iload_n 23 rfl 1 dX10_layMuch_22 rfl rfl ?_
  refine q_V 26 0 0 rfl [.int (nI s)] rfl dX10_layMuch_23 cl_X10_layMuch__X10_smells (lk_X10_131 rfl) im_X10_smells (ci := 10) rfl sl_X10__X10_smells rfl (Nat.le_of_ble_eq_true rfl) (fun _ _ => Nat.le_of_ble_eq_true rfl) rfl rfl (Nat.le_of_ble_eq_true rfl) (Nat.le_of_ble_eq_true rfl) ?_
  refine c_X10_smells (by omega) e0 hk4 e4 hb1 hfr hr1 hhr hh (fun hsm => (k_i ?_)) (fun hsm => (k_i ?_))
  · refine r_if_ne 29 30 rfl dX10_layMuch_26 rfl (fun _ => ?_) (fun q__ => absurd q__ (by decide))
    refine r_aload_n 31 rfl 0 dX10_layMuch_30 rfl rfl ?_
    refine r_getf (v := .ref 43) (k := 12) 34 rfl dX10_layMuch_31 (gf_X10_25_10 rfl) rfl rfl ?_
    refine r_aload_n 35 rfl 0 dX10_layMuch_34 rfl rfl ?_
    refine r_getf (v := .ref 42) (k := 11) 38 rfl dX10_layMuch_35 (gf_X10_22_10 rfl) rfl rfl ?_
    refine r_bipush 40 rfl 6 dX10_layMuch_38 (by decide) ?_
    refine r_iload_n 41 rfl 1 dX10_layMuch_40 rfl rfl ?_
    refine r_imul 42 rfl dX10_layMuch_41 ?_
    rw [show 6 * (nI s) = nI (6 * s) from pk_mul 6 s]
    refine r_iconst 43 rfl 2 dX10_layMuch_42 rfl ?_
    refine r_iadd 44 rfl dX10_layMuch_43 ?_
    rw [show (nI (6 * s)) + 2 = nI ((6 * s) + 2) from nI_add (6 * s) 2]
    refine r_iald (f := m1 42) 45 rfl ((6 * s) + 2) dX10_layMuch_44 rfl rfl (by omega) (by decide) ?_
    rw [show (m1 42) ((6 * s) + 2) = nI (ce s) from e2]
    refine r_aload_n 46 rfl 0 dX10_layMuch_45 rfl rfl ?_
    refine r_iload_n 47 rfl 1 dX10_layMuch_46 rfl rfl ?_
    refine q_V 50 0 0 rfl [.int (nI s)] rfl dX10_layMuch_47 cl_X10_layMuch__X10_forceOf (lk_X10_134 rfl) im_X10_forceOf (ci := 10) rfl sl_X10__X10_forceOf rfl (Nat.le_of_ble_eq_true rfl) (fun _ _ => Nat.le_of_ble_eq_true rfl) rfl rfl (Nat.le_of_ble_eq_true rfl) (Nat.le_of_ble_eq_true rfl) ?_
    refine c_X10_forceOf (by omega) e0 hk4 e3 hs9 e5 hbt (k_i ?_)
    refine w_iast 51 rfl (ce s) (va_up m1 43 (upd (m1 43) (ce s) (nI (so_fo (kd s) (sg s) (bt s))))) dX10_layMuch_50 (by decide) (by decide) (fun _ => rfl) rfl (by omega) (by decide) rfl ?_
    refine r_iconst 52 rfl 1 dX10_layMuch_51 rfl ?_
    refine r_istore_n 53 rfl 2 [some (.ref 37), some (.int (nI s)), some (.int 1), none, none, none, none, none] dX10_layMuch_52 rfl (by decide) rfl ?_
    refine lp_layMuch1 g (m := va_up m1 43 (upd (m1 43) (ce s) (nI (so_fo (kd s) (sg s) (bt s))))) hg' hfd hf1' hf3 (by omega) e0 hk4 hwi hwi4 hc8 (so_fo_le (kd := kd s) (bt := bt s) hs9) (fun m2 hm2 hag2 => ?_) 8 0 rfl _ (fun j hj => ?_) (ag_r _ _)
    · refine k m2 (fun j hj => ?_) (ag_t (ag_up hag1 (by decide)) hag2 (by simp))
      rw [hm2 j hj]
      unfold so_am
      rw [if_pos hsm]
    · rw [va_up_self]
      unfold upd
      show _ = nI (sp_0 _ _ j)
      unfold sp_0
      by_cases hjs : j = ce s
      · rw [if_pos hjs, if_pos hjs]
      · rw [if_neg hjs, if_neg hjs]; exact hm1 j hj
  · refine r_if_ne 29 30 rfl dX10_layMuch_26 rfl (fun q__ => absurd (by decide) q__) (fun _ => ?_)
    refine r_return rfl dX10_layMuch_29 (Nat.le_of_ble_eq_true rfl) (Nat.le_of_ble_eq_true rfl) ?_
    refine k m1 (fun j hj => ?_) hag1
    rw [hm1 j hj]
    unfold so_am
    rw [if_neg hsm]
    rfl

set_option maxHeartbeats 4000000 in
set_option maxRecDepth 20000 in
theorem lp_layCells2 {Q : am_P} {z : am_Z} {m : Nat → Nat → Int32} {n : Nat} {a mo : Nat → Nat} {s : Nat} (ha : ∀ j, j < 8 → m 43 j = nI (a j) ∧ a j ≤ 9) (hmo : ∀ j, j < 8 → m 45 j = nI (mo j) ∧ mo j ≤ 9) (kx : ∀ m', (∀ j, j < 8 → m' 45 j = nI (if mo j < a j then a j else mo j)) → (∀ j, j < 8 → m' 44 j = if mo j < a j then nI s else m 44 j) → ag [44, 45] m m' → AW mX10_layCells Q 124 [some (.ref 37), some (.int (nI s)), none] [] (wd z m') n 0 0) : ∀ (d c : Nat), c + d = 8 → ∀ m', (∀ j, j < c → m' 45 j = nI (if mo j < a j then a j else mo j)) → (∀ j, j < c → m' 44 j = if mo j < a j then nI s else m 44 j) → (∀ j, c ≤ j → j < 8 → m' 45 j = nI (mo j) ∧ m' 44 j = m 44 j) → ag [44, 45] m m' → AW mX10_layCells Q 45 [some (.ref 37), some (.int (nI s)), some (.int (nI c))] [] (wd z m') n 0 0 := by
  intro d
  induction d with
  | zero =>
    intro c hc m' h45 h44 hr hag
    have hc : c = 8 := by omega
    subst hc
    refine r_iload_n 46 rfl 2 dX10_layCells_45 rfl rfl ?_
    refine r_bipush 48 rfl 8 dX10_layCells_46 (by decide) ?_
    refine r_icmp_ge 51 124 rfl dX10_layCells_48 rfl (fun _ => ?_) (fun q__ => absurd ((nI_leI (a := 8) (b := 8) (by omega) (by omega)).mpr (by omega)) q__)
    refine AW.drop 2 [some (.ref 37), some (.int (nI s)), none] rfl ?_
    exact kx m' h45 h44 hag
  | succ d ih =>
    intro c hc m' h45 h44 hr hag
    have h43 : m' 43 = m 43 := hag 43 (by decide)
    have hac : m' 43 c = nI (a c) := by rw [h43]; exact (ha c (by omega)).1
    have hal := (ha c (by omega)).2
    have hml := (hmo c (by omega)).2
    have hrc := hr c (Nat.le_refl c) (by omega)
    refine r_iload_n 46 rfl 2 dX10_layCells_45 rfl rfl ?_
    refine r_bipush 48 rfl 8 dX10_layCells_46 (by decide) ?_
    refine r_icmp_ge 51 124 rfl dX10_layCells_48 rfl (fun q__ => absurd q__ (fun q__ => absurd ((nI_leI (a := 8) (b := c) (by omega) (by omega)).mp q__) (by omega))) (fun _ => ?_)
    refine r_aload_n 52 rfl 0 dX10_layCells_51 rfl rfl ?_
    refine r_getf (v := .ref 44) (k := 13) 55 rfl dX10_layCells_52 (gf_X10_28_10 rfl) rfl rfl ?_
    refine r_iload_n 56 rfl 2 dX10_layCells_55 rfl rfl ?_
    refine r_aload_n 57 rfl 0 dX10_layCells_56 rfl rfl ?_
    refine r_getf (v := .ref 43) (k := 12) 60 rfl dX10_layCells_57 (gf_X10_25_10 rfl) rfl rfl ?_
    refine r_iload_n 61 rfl 2 dX10_layCells_60 rfl rfl ?_
    refine r_iald (f := m' 43) 62 rfl c dX10_layCells_61 rfl rfl (by omega) (by decide) ?_
    rw [show (m' 43) c = nI (a c) from hac]
    refine r_aload_n 63 rfl 0 dX10_layCells_62 rfl rfl ?_
    refine r_getf (v := .ref 45) (k := 14) 66 rfl dX10_layCells_63 (gf_X10_31_10 rfl) rfl rfl ?_
    refine r_iload_n 67 rfl 2 dX10_layCells_66 rfl rfl ?_
    refine r_iald (f := m' 45) 68 rfl c dX10_layCells_67 rfl rfl (by omega) (by decide) ?_
    rw [show (m' 45) c = nI (mo c) from hrc.1]
    refine r_icmp_le 71 75 rfl dX10_layCells_68 rfl (fun c68 => ?_) (fun c68 => ?_)
    · replace c68 : a c ≤ mo c := (nI_leI (a := (a c)) (b := (mo c)) (by omega) (by omega)).mp c68
      refine r_aload_n 76 rfl 0 dX10_layCells_75 rfl rfl ?_
      refine r_getf (v := .ref 44) (k := 13) 79 rfl dX10_layCells_76 (gf_X10_28_10 rfl) rfl rfl ?_
      refine r_iload_n 80 rfl 2 dX10_layCells_79 rfl rfl ?_
      refine r_iald (f := m' 44) 81 rfl c dX10_layCells_80 rfl rfl (by omega) (by decide) ?_
      refine w_iast 82 rfl c (va_up m' 44 (upd (m' 44) c ((m' 44) c))) dX10_layCells_81 (by decide) (by decide) (fun _ => rfl) rfl (by omega) (by decide) rfl ?_
      refine r_aload_n 83 rfl 0 dX10_layCells_82 rfl rfl ?_
      refine r_getf (v := .ref 45) (k := 14) 86 rfl dX10_layCells_83 (gf_X10_31_10 rfl) rfl rfl ?_
      refine r_iload_n 87 rfl 2 dX10_layCells_86 rfl rfl ?_
      refine r_aload_n 88 rfl 0 dX10_layCells_87 rfl rfl ?_
      refine r_getf (v := .ref 43) (k := 12) 91 rfl dX10_layCells_88 (gf_X10_25_10 rfl) rfl rfl ?_
      refine r_iload_n 92 rfl 2 dX10_layCells_91 rfl rfl ?_
      refine r_iald (f := m' 43) 93 rfl c dX10_layCells_92 rfl rfl (by omega) (by decide) ?_
      rw [show (m' 43) c = nI (a c) from hac]
      refine r_aload_n 94 rfl 0 dX10_layCells_93 rfl rfl ?_
      refine r_getf (v := .ref 45) (k := 14) 97 rfl dX10_layCells_94 (gf_X10_31_10 rfl) rfl rfl ?_
      refine r_iload_n 98 rfl 2 dX10_layCells_97 rfl rfl ?_
      refine r_iald (f := m' 45) 99 rfl c dX10_layCells_98 rfl rfl (by omega) (by decide) ?_
      rw [show (m' 45) c = nI (mo c) from hrc.1]
      refine r_icmp_le 102 111 rfl dX10_layCells_99 rfl (fun _ => ?_) (fun q__ => absurd ((nI_leI (a := (a c)) (b := (mo c)) (by omega) (by omega)).mpr (by omega)) q__)
      refine r_aload_n 112 rfl 0 dX10_layCells_111 rfl rfl ?_
      refine r_getf (v := .ref 45) (k := 14) 115 rfl dX10_layCells_112 (gf_X10_31_10 rfl) rfl rfl ?_
      refine r_iload_n 116 rfl 2 dX10_layCells_115 rfl rfl ?_
      refine r_iald (f := m' 45) 117 rfl c dX10_layCells_116 rfl rfl (by omega) (by decide) ?_
      rw [show (m' 45) c = nI (mo c) from hrc.1]
      refine w_iast 118 rfl c (va_up (va_up m' 44 (upd (m' 44) c ((m' 44) c))) 45 (upd (m' 45) c (nI (mo c)))) dX10_layCells_117 (by decide) (by decide) (fun _ => rfl) rfl (by omega) (by decide) rfl ?_
      refine r_iinc 121 rfl (nI (c + 1)) [some (.ref 37), some (.int (nI s)), some (.int (nI (c + 1)))] dX10_layCells_118 rfl (nI_1 _) (by decide) rfl ?_
      refine r_goto 45 dX10_layCells_121 rfl ?_
      refine ih (c + 1) (by omega) _ (fun j hj => ?_) (fun j hj => ?_) (fun j h1 h2 => ?_) (ag_up (ag_up hag (by decide)) (by decide))
      · show upd (m' 45) c (nI (mo c)) j = _
        unfold upd
        by_cases hjc : j = c
        · subst hjc; rw [if_pos rfl, if_neg (by omega)]
        · rw [if_neg hjc]; exact h45 j (by omega)
      · show upd (m' 44) c (m' 44 c) j = _
        unfold upd
        by_cases hjc : j = c
        · subst hjc; rw [if_pos rfl, if_neg (by omega)]; exact hrc.2
        · rw [if_neg hjc]; exact h44 j (by omega)
      · have hjc : j ≠ c := by omega
        refine ⟨?_, ?_⟩
        · show upd (m' 45) c (nI (mo c)) j = _
          unfold upd
          rw [if_neg hjc]
          exact (hr j (by omega) h2).1
        · show upd (m' 44) c (m' 44 c) j = _
          unfold upd
          rw [if_neg hjc]
          exact (hr j (by omega) h2).2
    · replace c68 : ¬ (a c) ≤ (mo c) := fun q__ => c68 ((nI_leI (a := (a c)) (b := (mo c)) (by omega) (by omega)).mpr q__)
      refine r_iload_n 72 rfl 1 dX10_layCells_71 rfl rfl ?_
      refine r_goto 81 dX10_layCells_72 rfl ?_
      refine w_iast 82 rfl c (va_up m' 44 (upd (m' 44) c (nI s))) dX10_layCells_81 (by decide) (by decide) (fun _ => rfl) rfl (by omega) (by decide) rfl ?_
      refine r_aload_n 83 rfl 0 dX10_layCells_82 rfl rfl ?_
      refine r_getf (v := .ref 45) (k := 14) 86 rfl dX10_layCells_83 (gf_X10_31_10 rfl) rfl rfl ?_
      refine r_iload_n 87 rfl 2 dX10_layCells_86 rfl rfl ?_
      refine r_aload_n 88 rfl 0 dX10_layCells_87 rfl rfl ?_
      refine r_getf (v := .ref 43) (k := 12) 91 rfl dX10_layCells_88 (gf_X10_25_10 rfl) rfl rfl ?_
      refine r_iload_n 92 rfl 2 dX10_layCells_91 rfl rfl ?_
      refine r_iald (f := m' 43) 93 rfl c dX10_layCells_92 rfl rfl (by omega) (by decide) ?_
      rw [show (m' 43) c = nI (a c) from hac]
      refine r_aload_n 94 rfl 0 dX10_layCells_93 rfl rfl ?_
      refine r_getf (v := .ref 45) (k := 14) 97 rfl dX10_layCells_94 (gf_X10_31_10 rfl) rfl rfl ?_
      refine r_iload_n 98 rfl 2 dX10_layCells_97 rfl rfl ?_
      refine r_iald (f := m' 45) 99 rfl c dX10_layCells_98 rfl rfl (by omega) (by decide) ?_
      rw [show (m' 45) c = nI (mo c) from hrc.1]
      refine r_icmp_le 102 111 rfl dX10_layCells_99 rfl (fun q__ => absurd q__ (fun q__ => absurd ((nI_leI (a := (a c)) (b := (mo c)) (by omega) (by omega)).mp q__) (by omega))) (fun _ => ?_)
      refine r_aload_n 103 rfl 0 dX10_layCells_102 rfl rfl ?_
      refine r_getf (v := .ref 43) (k := 12) 106 rfl dX10_layCells_103 (gf_X10_25_10 rfl) rfl rfl ?_
      refine r_iload_n 107 rfl 2 dX10_layCells_106 rfl rfl ?_
      refine r_iald (f := m' 43) 108 rfl c dX10_layCells_107 rfl rfl (by omega) (by decide) ?_
      rw [show (m' 43) c = nI (a c) from hac]
      refine r_goto 117 dX10_layCells_108 rfl ?_
      refine w_iast 118 rfl c (va_up (va_up m' 44 (upd (m' 44) c (nI s))) 45 (upd (m' 45) c (nI (a c)))) dX10_layCells_117 (by decide) (by decide) (fun _ => rfl) rfl (by omega) (by decide) rfl ?_
      refine r_iinc 121 rfl (nI (c + 1)) [some (.ref 37), some (.int (nI s)), some (.int (nI (c + 1)))] dX10_layCells_118 rfl (nI_1 _) (by decide) rfl ?_
      refine r_goto 45 dX10_layCells_121 rfl ?_
      refine ih (c + 1) (by omega) _ (fun j hj => ?_) (fun j hj => ?_) (fun j h1 h2 => ?_) (ag_up (ag_up hag (by decide)) (by decide))
      · show upd (m' 45) c (nI (a c)) j = _
        unfold upd
        by_cases hjc : j = c
        · subst hjc; rw [if_pos rfl, if_pos (by omega)]
        · rw [if_neg hjc]; exact h45 j (by omega)
      · show upd (m' 44) c (nI s) j = _
        unfold upd
        by_cases hjc : j = c
        · subst hjc; rw [if_pos rfl, if_pos (by omega)]
        · rw [if_neg hjc]; exact h44 j (by omega)
      · have hjc : j ≠ c := by omega
        refine ⟨?_, ?_⟩
        · show upd (m' 45) c (nI (a c)) j = _
          unfold upd
          rw [if_neg hjc]
          exact (hr j (by omega) h2).1
        · show upd (m' 44) c (nI s) j = _
          unfold upd
          rw [if_neg hjc]
          exact (hr j (by omega) h2).2

set_option maxHeartbeats 4000000 in
set_option maxRecDepth 20000 in
theorem lp_layCells1 {Q : am_P} {z : am_Z} {m : Nat → Nat → Int32} {n : Nat} (g : Nat → Nat) (hg : ∀ j, j < 8 → m 39 j = nI (g j) ∧ g j ≤ 2) {fd : Nat} (hfd : m 37 2 = nI fd) (hf3 : fd ≤ 3) {ns wi hr fr : Nat} {kd pa ce sg bn bt : Nat → Nat} (hf1 : 0 < ns → 1 ≤ fd) (hn7 : ns ≤ 7) (hmr : MR m ns kd pa ce sg bn bt) (hwi : m 37 3 = nI wi) (hwi4 : wi ≤ 4) (hfr : m 37 4 = nI fr) (hr1 : fr ≤ 1) (hhr : m 37 5 = nI hr) (hh : hr < 2 ^ 30) (hns : m 37 10 = nI ns) (k : ∀ m', (∀ j, j < 8 → m' 45 j = nI (st_mo (so_am g no_b fd wi hr fr kd ce sg bn bt) ns j)) → (∀ j, j < 8 → m' 44 j = st_by (so_am g no_b fd wi hr fr kd ce sg bn bt) ns j) → ag [43, 44, 45] m m' → Q none (wd z m') n) : ∀ (d s : Nat), s + d = ns → ∀ m', (∀ j, j < 8 → m' 45 j = nI (st_mo (so_am g no_b fd wi hr fr kd ce sg bn bt) s j)) → (∀ j, j < 8 → m' 44 j = st_by (so_am g no_b fd wi hr fr kd ce sg bn bt) s j) → ag [43, 44, 45] m m' → AW mX10_layCells Q 30 [some (.ref 37), some (.int (nI s)), none] [] (wd z m') n 0 0 := by
  have hA9 : ∀ s', s' < ns → ∀ j, (so_am g no_b fd wi hr fr kd ce sg bn bt) s' j ≤ 9 := fun s' hs j => so_am_le (hmr s' hs).2.2.2.2.1 j
  intro d
  induction d with
  | zero =>
    intro s hs m' h45 h44 hag
    have hs : s = ns := by omega
    subst hs
    have hns' : m' 37 10 = nI s := by rw [hag 37 (by decide)]; exact hns
    refine r_iload_n 31 rfl 1 dX10_layCells_30 rfl rfl ?_
    refine r_aload_n 32 rfl 0 dX10_layCells_31 rfl rfl ?_
    refine r_getf (v := .int ((m' 37) 10)) (k := 10) 35 rfl dX10_layCells_32 (gf_X10_95_10 rfl) rfl rfl ?_
    rw [show (m' 37) 10 = nI s from hns']
    refine r_icmp_ge 38 130 rfl dX10_layCells_35 rfl (fun _ => ?_) (fun q__ => absurd ((nI_leI (a := s) (b := s) (by omega) (by omega)).mpr (by omega)) q__)
    refine r_return rfl dX10_layCells_130 (Nat.le_of_ble_eq_true rfl) (Nat.le_of_ble_eq_true rfl) ?_
    exact k m' h45 h44 hag
  | succ d ih =>
    intro s hs m' h45 h44 hag
    have h37 : m' 37 = m 37 := hag 37 (by decide)
    have hns' : m' 37 10 = nI ns := by rw [h37]; exact hns
    have hg' : ∀ j, j < 8 → m' 39 j = nI (g j) ∧ g j ≤ 2 := fun j hj => by rw [hag 39 (by decide)]; exact hg j hj
    have hfd' : m' 37 2 = nI fd := by rw [h37]; exact hfd
    have hwi' : m' 37 3 = nI wi := by rw [h37]; exact hwi
    have hfr' : m' 37 4 = nI fr := by rw [h37]; exact hfr
    have hhr' : m' 37 5 = nI hr := by rw [h37]; exact hhr
    have hmo9 := st_mo_le (A := (so_am g no_b fd wi hr fr kd ce sg bn bt)) s (fun s' h' => hA9 s' (by omega))
    refine r_iload_n 31 rfl 1 dX10_layCells_30 rfl rfl ?_
    refine r_aload_n 32 rfl 0 dX10_layCells_31 rfl rfl ?_
    refine r_getf (v := .int ((m' 37) 10)) (k := 10) 35 rfl dX10_layCells_32 (gf_X10_95_10 rfl) rfl rfl ?_
    rw [show (m' 37) 10 = nI ns from hns']
    refine r_icmp_ge 38 130 rfl dX10_layCells_35 rfl (fun q__ => absurd q__ (fun q__ => absurd ((nI_leI (a := ns) (b := s) (by omega) (by omega)).mp q__) (by omega))) (fun _ => ?_)
    refine r_aload_n 39 rfl 0 dX10_layCells_38 rfl rfl ?_
    refine r_iload_n 40 rfl 1 dX10_layCells_39 rfl rfl ?_
    refine q_V 43 0 0 rfl [.int (nI s)] rfl dX10_layCells_40 cl_X10_layCells__X10_layMuch (lk_X10_145 rfl) im_X10_layMuch (ci := 10) rfl sl_X10__X10_layMuch rfl (Nat.le_of_ble_eq_true rfl) (fun _ _ => Nat.le_of_ble_eq_true rfl) rfl rfl (Nat.le_of_ble_eq_true rfl) (Nat.le_of_ble_eq_true rfl) ?_
    refine c_layMuch g hg' hfd' hf3 hf1 hn7 (MR_ag hmr (hag 42 (by decide))) hwi' hwi4 hfr' hr1 hhr' hh (s := s) (by omega) (fun m2 hm2 hag2 => (k_v ?_))
    have h45' : ∀ j, j < 8 → m2 45 j = nI (st_mo (so_am g no_b fd wi hr fr kd ce sg bn bt) s j) := fun j hj => by rw [hag2 45 (by decide)]; exact h45 j hj
    have h44' : ∀ j, j < 8 → m2 44 j = st_by (so_am g no_b fd wi hr fr kd ce sg bn bt) s j := fun j hj => by rw [hag2 44 (by decide)]; exact h44 j hj
    refine r_iconst 44 rfl 0 dX10_layCells_43 rfl ?_
    refine r_istore_n 45 rfl 2 [some (.ref 37), some (.int (nI s)), some (.int 0)] dX10_layCells_44 rfl (by decide) rfl ?_
    refine lp_layCells2 (a := (so_am g no_b fd wi hr fr kd ce sg bn bt) s) (mo := st_mo (so_am g no_b fd wi hr fr kd ce sg bn bt) s) (fun j hj => ⟨hm2 j hj, hA9 s (by omega) j⟩) (fun j hj => ⟨h45' j hj, hmo9 j⟩) (fun m3 b45 b44 hag3 => ?_) 8 0 rfl m2 (fun j hj => absurd hj (Nat.not_lt_zero j)) (fun j hj => absurd hj (Nat.not_lt_zero j)) (fun j _ h2 => ⟨h45' j h2, rfl⟩) (ag_r _ _)
    refine r_iinc 127 rfl (nI (s + 1)) [some (.ref 37), some (.int (nI (s + 1))), none] dX10_layCells_124 rfl (nI_1 _) (by decide) rfl ?_
    refine r_goto 30 dX10_layCells_127 rfl ?_
    refine ih (s + 1) (by omega) m3 (fun j hj => ?_) (fun j hj => ?_) (ag_t (ag_t hag hag2 (by decide)) hag3 (by decide))
    · rw [b45 j hj]; rfl
    · rw [b44 j hj, h44' j hj]; rfl

set_option maxHeartbeats 4000000 in
set_option maxRecDepth 20000 in
theorem lp_layCells0 {Q : am_P} {z : am_Z} {m : Nat → Nat → Int32} {n : Nat} (kx : ∀ m', (∀ j, j < 8 → m' 45 j = 0) → (∀ j, j < 8 → m' 44 j = -1) → ag [43, 44, 45] m m' → AW mX10_layCells Q 28 [some (.ref 37), none, none] [] (wd z m') n 0 0) : ∀ (d c : Nat), c + d = 8 → ∀ m', (∀ j, j < c → m' 45 j = 0) → (∀ j, j < c → m' 44 j = -1) → ag [43, 44, 45] m m' → AW mX10_layCells Q 2 [some (.ref 37), some (.int (nI c)), none] [] (wd z m') n 0 0 := by
  intro d
  induction d with
  | zero =>
    intro c hc m' h45 h44 hag
    have hc : c = 8 := by omega
    subst hc
    refine r_iload_n 3 rfl 1 dX10_layCells_2 rfl rfl ?_
    refine r_bipush 5 rfl 8 dX10_layCells_3 (by decide) ?_
    refine r_icmp_ge 8 28 rfl dX10_layCells_5 rfl (fun _ => ?_) (fun q__ => absurd ((nI_leI (a := 8) (b := 8) (by omega) (by omega)).mpr (by omega)) q__)
    refine AW.drop 1 [some (.ref 37), none, none] rfl ?_
    exact kx m' h45 h44 hag
  | succ d ih =>
    intro c hc m' h45 h44 hag
    refine r_iload_n 3 rfl 1 dX10_layCells_2 rfl rfl ?_
    refine r_bipush 5 rfl 8 dX10_layCells_3 (by decide) ?_
    refine r_icmp_ge 8 28 rfl dX10_layCells_5 rfl (fun q__ => absurd q__ (fun q__ => absurd ((nI_leI (a := 8) (b := c) (by omega) (by omega)).mp q__) (by omega))) (fun _ => ?_)
    refine r_aload_n 9 rfl 0 dX10_layCells_8 rfl rfl ?_
    refine r_getf (v := .ref 44) (k := 13) 12 rfl dX10_layCells_9 (gf_X10_28_10 rfl) rfl rfl ?_
    refine r_iload_n 13 rfl 1 dX10_layCells_12 rfl rfl ?_
    refine r_iconst 14 rfl (-1) dX10_layCells_13 rfl ?_
    refine w_iast 15 rfl c (va_up m' 44 (upd (m' 44) c (-1))) dX10_layCells_14 (by decide) (by decide) (fun _ => rfl) rfl (by omega) (by decide) rfl ?_
    refine r_aload_n 16 rfl 0 dX10_layCells_15 rfl rfl ?_
    refine r_getf (v := .ref 45) (k := 14) 19 rfl dX10_layCells_16 (gf_X10_31_10 rfl) rfl rfl ?_
    refine r_iload_n 20 rfl 1 dX10_layCells_19 rfl rfl ?_
    refine r_iconst 21 rfl 0 dX10_layCells_20 rfl ?_
    refine w_iast 22 rfl c (va_up (va_up m' 44 (upd (m' 44) c (-1))) 45 (upd (m' 45) c 0)) dX10_layCells_21 (by decide) (by decide) (fun _ => rfl) rfl (by omega) (by decide) rfl ?_
    refine r_iinc 25 rfl (nI (c + 1)) [some (.ref 37), some (.int (nI (c + 1))), none] dX10_layCells_22 rfl (nI_1 _) (by decide) rfl ?_
    refine r_goto 2 dX10_layCells_25 rfl ?_
    refine ih (c + 1) (by omega) _ (fun j hj => ?_) (fun j hj => ?_) (ag_up (ag_up hag (by decide)) (by decide))
    · show upd (m' 45) c 0 j = _
      unfold upd
      by_cases hjc : j = c
      · rw [if_pos hjc]
      · rw [if_neg hjc]; exact h45 j (by omega)
    · show upd (m' 44) c (-1) j = _
      unfold upd
      by_cases hjc : j = c
      · rw [if_pos hjc]
      · rw [if_neg hjc]; exact h44 j (by omega)

set_option maxHeartbeats 4000000 in
set_option maxRecDepth 20000 in
theorem c_layCells {Q : am_P} {z : am_Z} {m : Nat → Nat → Int32} {n : Nat} (g : Nat → Nat) (hg : ∀ j, j < 8 → m 39 j = nI (g j) ∧ g j ≤ 2) {fd : Nat} (hfd : m 37 2 = nI fd) (hf3 : fd ≤ 3) {ns wi hr fr : Nat} {kd pa ce sg bn bt : Nat → Nat} (hf1 : 0 < ns → 1 ≤ fd) (hn7 : ns ≤ 7) (hmr : MR m ns kd pa ce sg bn bt) (hwi : m 37 3 = nI wi) (hwi4 : wi ≤ 4) (hfr : m 37 4 = nI fr) (hr1 : fr ≤ 1) (hhr : m 37 5 = nI hr) (hh : hr < 2 ^ 30) (hns : m 37 10 = nI ns) (k : ∀ m', (∀ j, j < 8 → m' 45 j = nI (st_mo (so_am g no_b fd wi hr fr kd ce sg bn bt) ns j)) → (∀ j, j < 8 → m' 44 j = st_by (so_am g no_b fd wi hr fr kd ce sg bn bt) ns j) → ag [43, 44, 45] m m' → Q none (wd z m') n) : AW mX10_layCells Q 0 (am_ent (am_l mX10_layCells) [.ref 37]) [] (wd z m) n 0 0 := by
  show AW _ _ 0 [some (.ref 37), none, none] [] _ _ 0 0
  refine r_iconst 1 rfl 0 dX10_layCells_0 rfl ?_
  refine r_istore_n 2 rfl 1 [some (.ref 37), some (.int 0), none] dX10_layCells_1 rfl (by decide) rfl ?_
  refine lp_layCells0 (fun m1 h45 h44 hag1 => ?_) 8 0 rfl m (fun j hj => absurd hj (Nat.not_lt_zero j)) (fun j hj => absurd hj (Nat.not_lt_zero j)) (ag_r _ _)
  refine r_iconst 29 rfl 0 dX10_layCells_28 rfl ?_
  refine r_istore_n 30 rfl 1 [some (.ref 37), some (.int 0), none] dX10_layCells_29 rfl (by decide) rfl ?_
  exact lp_layCells1 g hg hfd hf3 hf1 hn7 hmr hwi hwi4 hfr hr1 hhr hh hns k ns 0 (by omega) m1 h45 h44 hag1

theorem st_bw (A : Nat → Nat → Nat) (pa : Nat → Nat) (c : Nat) : ∀ ns, (st_by A ns c = -1 ∧ st_wh A pa ns c = -1) ∨ ∃ s, s < ns ∧ st_by A ns c = nI s ∧ st_wh A pa ns c = nI (pa s)
  | 0 => Or.inl ⟨rfl, rfl⟩
  | ns + 1 => by
    unfold st_by st_wh
    by_cases h : st_mo A ns c < A ns c
    · rw [if_pos h, if_pos h]
      exact Or.inr ⟨ns, by omega, rfl, rfl⟩
    · rw [if_neg h, if_neg h]
      rcases st_bw A pa c ns with q | ⟨s, h1, h2⟩
      · exact Or.inl q
      · exact Or.inr ⟨s, by omega, h2⟩

set_option maxHeartbeats 4000000 in
set_option maxRecDepth 20000 in
theorem c_whose {Q : am_P} {z : am_Z} {m : Nat → Nat → Int32} {n : Nat} {ns c : Nat} {A : Nat → Nat → Nat} {pa : Nat → Nat} (hc : c < 8) (hn7 : ns ≤ 7) (hby : m 44 c = st_by A ns c) (hpa : ∀ s, s < ns → m 42 (6 * s + 1) = nI (pa s)) (k : Q (some (.int (st_wh A pa ns c))) (wd z m) n) : AW mX10_whose Q 0 (am_ent (am_l mX10_whose) [.ref 37, .int (nI c)]) [] (wd z m) n 0 0 := by
  show AW _ _ 0 [some (.ref 37), some (.int (nI c))] [] _ _ 0 0
  rcases st_bw A pa c ns with ⟨h1, h2⟩ | ⟨s, hs, h1, h2⟩
  · rw [h1] at hby
    rw [h2] at k
    refine r_aload_n 1 rfl 0 dX10_whose_0 rfl rfl ?_
    refine r_getf (v := .ref 44) (k := 13) 4 rfl dX10_whose_1 (gf_X10_28_10 rfl) rfl rfl ?_
    refine r_iload_n 5 rfl 1 dX10_whose_4 rfl rfl ?_
    refine r_iald (f := m 44) 6 rfl c dX10_whose_5 rfl rfl (by omega) (by decide) ?_
    rw [show (m 44) c = (-1) from hby]
    refine r_iconst 7 rfl (-1) dX10_whose_6 rfl ?_
    refine r_icmp_ne 10 14 rfl dX10_whose_7 rfl (fun q__ => absurd rfl q__) (fun _ => ?_)
    refine r_iconst 11 rfl (-1) dX10_whose_10 rfl ?_
    refine r_goto 30 dX10_whose_11 rfl ?_
    refine r_ireturn rfl dX10_whose_30 (Nat.le_of_ble_eq_true rfl) (Nat.le_of_ble_eq_true rfl) ?_
    exact k
  · rw [h1] at hby
    rw [h2] at k
    refine r_aload_n 1 rfl 0 dX10_whose_0 rfl rfl ?_
    refine r_getf (v := .ref 44) (k := 13) 4 rfl dX10_whose_1 (gf_X10_28_10 rfl) rfl rfl ?_
    refine r_iload_n 5 rfl 1 dX10_whose_4 rfl rfl ?_
    refine r_iald (f := m 44) 6 rfl c dX10_whose_5 rfl rfl (by omega) (by decide) ?_
    rw [show (m 44) c = nI s from hby]
    refine r_iconst 7 rfl (-1) dX10_whose_6 rfl ?_
    refine r_icmp_ne 10 14 rfl dX10_whose_7 rfl (fun _ => ?_) (fun q__ => absurd q__ (nI_m1 (by omega)))
    refine r_aload_n 15 rfl 0 dX10_whose_14 rfl rfl ?_
    refine r_getf (v := .ref 42) (k := 11) 18 rfl dX10_whose_15 (gf_X10_22_10 rfl) rfl rfl ?_
    refine r_bipush 20 rfl 6 dX10_whose_18 (by decide) ?_
    refine r_aload_n 21 rfl 0 dX10_whose_20 rfl rfl ?_
    refine r_getf (v := .ref 44) (k := 13) 24 rfl dX10_whose_21 (gf_X10_28_10 rfl) rfl rfl ?_
    refine r_iload_n 25 rfl 1 dX10_whose_24 rfl rfl ?_
    refine r_iald (f := m 44) 26 rfl c dX10_whose_25 rfl rfl (by omega) (by decide) ?_
    rw [show (m 44) c = nI s from hby]
    refine r_imul 27 rfl dX10_whose_26 ?_
    rw [show 6 * (nI s) = nI (6 * s) from pk_mul 6 s]
    refine r_iconst 28 rfl 1 dX10_whose_27 rfl ?_
    refine r_iadd 29 rfl dX10_whose_28 ?_
    rw [show (nI (6 * s)) + 1 = nI ((6 * s) + 1) from nI_add (6 * s) 1]
    refine r_iald (f := m 42) 30 rfl ((6 * s) + 1) dX10_whose_29 rfl rfl (by omega) (by decide) ?_
    rw [show (m 42) ((6 * s) + 1) = nI (pa s) from hpa s hs]
    refine r_ireturn rfl dX10_whose_30 (Nat.le_of_ble_eq_true rfl) (Nat.le_of_ble_eq_true rfl) ?_
    exact k
