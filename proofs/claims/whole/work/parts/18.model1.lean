/-! the model's way of it -/
def sp_k (E : sp_G) (u : Nat → Nat) : Nat → Nat → Nat
  | 0 => u
  | k + 1 => sp_st E (sp_k E u k) (k / 4) (k % 4 + 1)
def sp_gk (E : sp_G) (u : Nat → Nat) : Nat → Bool
  | 0 => false
  | k + 1 => sp_gk E u k || sp_fire E (sp_k E u k) (k / 4) (k % 4 + 1)
theorem sp_k_w {E : sp_G} {u : Nat → Nat} {c : Nat} (h : sp_k E u (4 * c) = sp_r E u c ∧ sp_gk E u (4 * c) = sp_gr E u c) : ∀ w, w ≤ 4 → sp_k E u (4 * c + w) = sp_w E (sp_r E u c) c w ∧ sp_gk E u (4 * c + w) = (sp_gr E u c || sp_gw E (sp_r E u c) c w)
  | 0, _ => ⟨h.1, by rw [show sp_gw E (sp_r E u c) c 0 = false from rfl, Bool.or_false]; exact h.2⟩
  | w + 1, hw => by
    obtain ⟨h1, h2⟩ := sp_k_w h w (by omega)
    have e1 : (4 * c + w) / 4 = c := by omega
    have e2 : (4 * c + w) % 4 = w := by omega
    refine ⟨?_, ?_⟩
    · show sp_st E (sp_k E u (4 * c + w)) ((4 * c + w) / 4) ((4 * c + w) % 4 + 1) = _
      rw [e1, e2, h1]
      rfl
    · show (sp_gk E u (4 * c + w) || sp_fire E (sp_k E u (4 * c + w)) ((4 * c + w) / 4) ((4 * c + w) % 4 + 1)) = _
      rw [e1, e2, h1, h2, Bool.or_assoc]
      rfl
theorem sp_k_r {E : sp_G} {u : Nat → Nat} : ∀ c, sp_k E u (4 * c) = sp_r E u c ∧ sp_gk E u (4 * c) = sp_gr E u c
  | 0 => ⟨rfl, rfl⟩
  | c + 1 => by
    have h := sp_k_w (sp_k_r (E := E) (u := u) c) 4 (Nat.le_refl 4)
    rw [show 4 * (c + 1) = 4 * c + 4 by omega]
    exact h
theorem sp_k_32 {E : sp_G} {u : Nat → Nat} : sp_k E u 32 = sp_r E u 8 ∧ sp_gk E u 32 = sp_gr E u 8 := sp_k_r 8
theorem sp_k_le {E : sp_G} {u : Nat → Nat} {F : Nat} (h : ∀ j, u j ≤ F) : ∀ k j, sp_k E u k j ≤ F
  | 0 => h
  | k + 1 => sp_st_le (sp_k_le h k)
def no_b : Nat → Bool := fun _ => false

set_option maxHeartbeats 4000000 in
set_option maxRecDepth 20000 in
theorem c_X10_smells {Q : am_P} {z : am_Z} {m : Nat → Nat → Int32} {n : Nat} {s : Nat} (hs : s < 7) {kd bn hr fr : Nat} (hkd : m 42 (6 * s) = nI kd) (hk4 : kd ≤ 4) (hbn : m 42 (6 * s + 4) = nI bn) (hb1 : bn ≤ 1) (hfr : m 37 4 = nI fr) (hf1 : fr ≤ 1) (hhr : m 37 5 = nI hr) (hh : hr < 2 ^ 30) (k1 : bn = 1 ∧ so_at kd hr fr = true → Q (some (.int 1)) (wd z m) n) (k0 : ¬ (bn = 1 ∧ so_at kd hr fr = true) → Q (some (.int 0)) (wd z m) n) : AW mX10_smells Q 0 (am_ent (am_l mX10_smells) [.ref 37, .int (nI s)]) [] (wd z m) n 0 0 := by
  show AW _ _ 0 [some (.ref 37), some (.int (nI s)), none] [] _ _ 0 0
  refine r_aload_n 1 rfl 0 dX10_smells_0 rfl rfl ?_
  refine r_getf (v := .ref 42) (k := 11) 4 rfl dX10_smells_1 (gf_X10_22_10 rfl) rfl rfl ?_
  refine r_bipush 6 rfl 6 dX10_smells_4 (by decide) ?_
  refine r_iload_n 7 rfl 1 dX10_smells_6 rfl rfl ?_
  refine r_imul 8 rfl dX10_smells_7 ?_
  rw [show 6 * (nI s) = nI (6 * s) from pk_mul 6 s]
  refine r_iald (f := m 42) 9 rfl (6 * s) dX10_smells_8 rfl rfl (by omega) (by decide) ?_
  rw [show (m 42) (6 * s) = nI kd from hkd]
  refine r_istore_n 10 rfl 2 [some (.ref 37), some (.int (nI s)), some (.int (nI kd))] dX10_smells_9 rfl (by decide) rfl ?_
  refine r_aload_n 11 rfl 0 dX10_smells_10 rfl rfl ?_
  refine r_getf (v := .ref 42) (k := 11) 14 rfl dX10_smells_11 (gf_X10_22_10 rfl) rfl rfl ?_
  refine r_bipush 16 rfl 6 dX10_smells_14 (by decide) ?_
  refine r_iload_n 17 rfl 1 dX10_smells_16 rfl rfl ?_
  refine r_imul 18 rfl dX10_smells_17 ?_
  rw [show 6 * (nI s) = nI (6 * s) from pk_mul 6 s]
  refine r_iconst 19 rfl 4 dX10_smells_18 rfl ?_
  refine r_iadd 20 rfl dX10_smells_19 ?_
  rw [show (nI (6 * s)) + 4 = nI ((6 * s) + 4) from nI_add (6 * s) 4]
  refine r_iald (f := m 42) 21 rfl ((6 * s) + 4) dX10_smells_20 rfl rfl (by omega) (by decide) ?_
  rw [show (m 42) ((6 * s) + 4) = nI bn from hbn]
  refine r_iconst 22 rfl 1 dX10_smells_21 rfl ?_
  refine r_icmp_ne 25 55 rfl dX10_smells_22 rfl (fun c22 => ?_) (fun c22 => ?_)
  · replace c22 : ¬ bn = 1 := fun q__ => c22 ((nI_eq (a := bn) (b := 1) (by omega) (by omega)).mpr q__)
    refine r_iconst 56 rfl 0 dX10_smells_55 rfl ?_
    refine r_zreturn rfl rfl dX10_smells_56 (Nat.le_of_ble_eq_true rfl) (Nat.le_of_ble_eq_true rfl) ?_
    exact k0 (by intro w; have w2 := w.2; simp [so_at] at w2; omega)
  · replace c22 : bn = 1 := (nI_eq (a := bn) (b := 1) (by omega) (by omega)).mp c22
    refine r_iload_n 26 rfl 2 dX10_smells_25 rfl rfl ?_
    refine r_iconst 27 rfl 4 dX10_smells_26 rfl ?_
    refine r_icmp_eq 30 51 rfl dX10_smells_27 rfl (fun c27 => ?_) (fun c27 => ?_)
    · replace c27 : kd = 4 := (nI_eq (a := kd) (b := 4) (by omega) (by omega)).mp c27
      refine r_iconst 52 rfl 1 dX10_smells_51 rfl ?_
      refine r_goto 56 dX10_smells_52 rfl ?_
      refine r_zreturn rfl rfl dX10_smells_56 (Nat.le_of_ble_eq_true rfl) (Nat.le_of_ble_eq_true rfl) ?_
      exact k1 (by refine ⟨by omega, ?_⟩; simp [so_at, *])
    · replace c27 : ¬ kd = 4 := fun q__ => c27 ((nI_eq (a := kd) (b := 4) (by omega) (by omega)).mpr q__)
      refine r_aload_n 31 rfl 0 dX10_smells_30 rfl rfl ?_
      refine r_getf (v := .int ((m 37) 4)) (k := 4) 34 rfl dX10_smells_31 (gf_X10_89_10 rfl) rfl rfl ?_
      rw [show (m 37) 4 = nI fr from hfr]
      refine r_if_ne 37 55 rfl dX10_smells_34 rfl (fun c34 => ?_) (fun c34 => ?_)
      · replace c34 : ¬ fr = 0 := fun q__ => c34 ((nI_eq (a := fr) (b := 0) (by omega) (by omega)).mpr q__)
        refine r_iconst 56 rfl 0 dX10_smells_55 rfl ?_
        refine r_zreturn rfl rfl dX10_smells_56 (Nat.le_of_ble_eq_true rfl) (Nat.le_of_ble_eq_true rfl) ?_
        exact k0 (by intro w; have w2 := w.2; simp [so_at] at w2; omega)
      · replace c34 : fr = 0 := (nI_eq (a := fr) (b := 0) (by omega) (by omega)).mp c34
        refine r_iload_n 38 rfl 2 dX10_smells_37 rfl rfl ?_
        refine r_iconst 39 rfl 2 dX10_smells_38 rfl ?_
        refine r_icmp_ne 42 51 rfl dX10_smells_39 rfl (fun c39 => ?_) (fun c39 => ?_)
        · replace c39 : ¬ kd = 2 := fun q__ => c39 ((nI_eq (a := kd) (b := 2) (by omega) (by omega)).mpr q__)
          refine r_iconst 52 rfl 1 dX10_smells_51 rfl ?_
          refine r_goto 56 dX10_smells_52 rfl ?_
          refine r_zreturn rfl rfl dX10_smells_56 (Nat.le_of_ble_eq_true rfl) (Nat.le_of_ble_eq_true rfl) ?_
          exact k1 (by refine ⟨by omega, ?_⟩; simp [so_at, *])
        · replace c39 : kd = 2 := (nI_eq (a := kd) (b := 2) (by omega) (by omega)).mp c39
          refine r_aload_n 43 rfl 0 dX10_smells_42 rfl rfl ?_
          refine r_getf (v := .int ((m 37) 5)) (k := 5) 46 rfl dX10_smells_43 (gf_X10_92_10 rfl) rfl rfl ?_
          rw [show (m 37) 5 = nI hr from hhr]
          refine r_iconst 47 rfl 2 dX10_smells_46 rfl ?_
          refine r_irem 48 rfl dX10_smells_47 (by decide) ?_
          rw [show (nI hr) - (nI hr) / 2 * 2 = nI (hr % 2) from pk_rem (a := hr) (d := 2) (by omega) (by decide) (by decide)]
          refine r_if_ne 51 55 rfl dX10_smells_48 rfl (fun c48 => ?_) (fun c48 => ?_)
          · replace c48 : ¬ (hr % 2) = 0 := fun q__ => c48 ((nI_eq (a := (hr % 2)) (b := 0) (by omega) (by omega)).mpr q__)
            refine r_iconst 56 rfl 0 dX10_smells_55 rfl ?_
            refine r_zreturn rfl rfl dX10_smells_56 (Nat.le_of_ble_eq_true rfl) (Nat.le_of_ble_eq_true rfl) ?_
            exact k0 (by intro w; have w2 := w.2; simp [so_at] at w2; omega)
          · replace c48 : hr % 2 = 0 := (nI_eq (a := (hr % 2)) (b := 0) (by omega) (by omega)).mp c48
            refine r_iconst 52 rfl 1 dX10_smells_51 rfl ?_
            refine r_goto 56 dX10_smells_52 rfl ?_
            refine r_zreturn rfl rfl dX10_smells_56 (Nat.le_of_ble_eq_true rfl) (Nat.le_of_ble_eq_true rfl) ?_
            exact k1 (by refine ⟨by omega, ?_⟩; simp [so_at, *])

set_option maxHeartbeats 4000000 in
set_option maxRecDepth 20000 in
theorem c_X10_forceOf {Q : am_P} {z : am_Z} {m : Nat → Nat → Int32} {n : Nat} {s : Nat} (hs : s < 7) {kd sg bt : Nat} (hkd : m 42 (6 * s) = nI kd) (hk4 : kd ≤ 4) (hsg : m 42 (6 * s + 3) = nI sg) (hs9 : sg ≤ 9) (hbt : m 42 (6 * s + 5) = nI bt) (hb : bt < 2 ^ 30) (k : Q (some (.int (nI (so_fo kd sg bt)))) (wd z m) n) : AW mX10_forceOf Q 0 (am_ent (am_l mX10_forceOf) [.ref 37, .int (nI s)]) [] (wd z m) n 0 0 := by
  show AW _ _ 0 [some (.ref 37), some (.int (nI s)), none] [] _ _ 0 0
  refine r_aload_n 1 rfl 0 dX10_forceOf_0 rfl rfl ?_
  refine r_getf (v := .ref 42) (k := 11) 4 rfl dX10_forceOf_1 (gf_X10_22_10 rfl) rfl rfl ?_
  refine r_bipush 6 rfl 6 dX10_forceOf_4 (by decide) ?_
  refine r_iload_n 7 rfl 1 dX10_forceOf_6 rfl rfl ?_
  refine r_imul 8 rfl dX10_forceOf_7 ?_
  rw [show 6 * (nI s) = nI (6 * s) from pk_mul 6 s]
  refine r_iconst 9 rfl 3 dX10_forceOf_8 rfl ?_
  refine r_iadd 10 rfl dX10_forceOf_9 ?_
  rw [show (nI (6 * s)) + 3 = nI ((6 * s) + 3) from nI_add (6 * s) 3]
  refine r_iald (f := m 42) 11 rfl ((6 * s) + 3) dX10_forceOf_10 rfl rfl (by omega) (by decide) ?_
  rw [show (m 42) ((6 * s) + 3) = nI sg from hsg]
  refine r_aload_n 12 rfl 0 dX10_forceOf_11 rfl rfl ?_
  refine r_getf (v := .ref 42) (k := 11) 15 rfl dX10_forceOf_12 (gf_X10_22_10 rfl) rfl rfl ?_
  refine r_bipush 17 rfl 6 dX10_forceOf_15 (by decide) ?_
  refine r_iload_n 18 rfl 1 dX10_forceOf_17 rfl rfl ?_
  refine r_imul 19 rfl dX10_forceOf_18 ?_
  rw [show 6 * (nI s) = nI (6 * s) from pk_mul 6 s]
  refine r_iald (f := m 42) 20 rfl (6 * s) dX10_forceOf_19 rfl rfl (by omega) (by decide) ?_
  rw [show (m 42) (6 * s) = nI kd from hkd]
  refine r_iconst 21 rfl 1 dX10_forceOf_20 rfl ?_
  refine r_icmp_ne 24 38 rfl dX10_forceOf_21 rfl (fun c21 => ?_) (fun c21 => ?_)
  · replace c21 : ¬ kd = 1 := fun q__ => c21 ((nI_eq (a := kd) (b := 1) (by omega) (by omega)).mpr q__)
    refine r_iconst 39 rfl 0 dX10_forceOf_38 rfl ?_
    refine r_iadd 40 rfl dX10_forceOf_39 ?_
    rw [show (nI sg) + 0 = nI (sg + 0) from nI_add sg 0]
    refine r_istore_n 41 rfl 2 [some (.ref 37), some (.int (nI s)), some (.int (nI (sg + 0)))] dX10_forceOf_40 rfl (by decide) rfl ?_
    refine r_iload_n 42 rfl 2 dX10_forceOf_41 rfl rfl ?_
    refine r_bipush 44 rfl 9 dX10_forceOf_42 (by decide) ?_
    refine r_icmp_le 47 52 rfl dX10_forceOf_44 rfl (fun _ => ?_) (fun q__ => absurd ((nI_leI (a := (sg + 0)) (b := 9) (by omega) (by omega)).mpr (by omega)) q__)
    refine r_iload_n 53 rfl 2 dX10_forceOf_52 rfl rfl ?_
    refine r_ireturn rfl dX10_forceOf_53 (Nat.le_of_ble_eq_true rfl) (Nat.le_of_ble_eq_true rfl) ?_
    have e : nI (sg + 0) = nI (so_fo kd sg bt) := by
      unfold so_fo
      first | rw [if_pos c21] | rw [if_neg c21]
      rfl
    rw [e]
    exact k
  · replace c21 : kd = 1 := (nI_eq (a := kd) (b := 1) (by omega) (by omega)).mp c21
    refine r_aload_n 25 rfl 0 dX10_forceOf_24 rfl rfl ?_
    refine r_getf (v := .ref 42) (k := 11) 28 rfl dX10_forceOf_25 (gf_X10_22_10 rfl) rfl rfl ?_
    refine r_bipush 30 rfl 6 dX10_forceOf_28 (by decide) ?_
    refine r_iload_n 31 rfl 1 dX10_forceOf_30 rfl rfl ?_
    refine r_imul 32 rfl dX10_forceOf_31 ?_
    rw [show 6 * (nI s) = nI (6 * s) from pk_mul 6 s]
    refine r_iconst 33 rfl 5 dX10_forceOf_32 rfl ?_
    refine r_iadd 34 rfl dX10_forceOf_33 ?_
    rw [show (nI (6 * s)) + 5 = nI ((6 * s) + 5) from nI_add (6 * s) 5]
    refine r_iald (f := m 42) 35 rfl ((6 * s) + 5) dX10_forceOf_34 rfl rfl (by omega) (by decide) ?_
    rw [show (m 42) ((6 * s) + 5) = nI bt from hbt]
    refine r_goto 39 dX10_forceOf_35 rfl ?_
    refine r_iadd 40 rfl dX10_forceOf_39 ?_
    rw [show (nI sg) + (nI bt) = nI (sg + bt) from nI_add sg bt]
    refine r_istore_n 41 rfl 2 [some (.ref 37), some (.int (nI s)), some (.int (nI (sg + bt)))] dX10_forceOf_40 rfl (by decide) rfl ?_
    refine r_iload_n 42 rfl 2 dX10_forceOf_41 rfl rfl ?_
    refine r_bipush 44 rfl 9 dX10_forceOf_42 (by decide) ?_
    refine r_icmp_le 47 52 rfl dX10_forceOf_44 rfl (fun c44 => ?_) (fun c44 => ?_)
    · replace c44 : sg + bt ≤ 9 := (nI_leI (a := (sg + bt)) (b := 9) (by omega) (by omega)).mp c44
      refine r_iload_n 53 rfl 2 dX10_forceOf_52 rfl rfl ?_
      refine r_ireturn rfl dX10_forceOf_53 (Nat.le_of_ble_eq_true rfl) (Nat.le_of_ble_eq_true rfl) ?_
      have e : nI (sg + bt) = nI (so_fo kd sg bt) := by
        unfold so_fo
        first | rw [if_pos c21] | rw [if_neg c21]
        rw [if_neg (by omega)]
      rw [e]
      exact k
    · replace c44 : ¬ (sg + bt) ≤ 9 := fun q__ => c44 ((nI_leI (a := (sg + bt)) (b := 9) (by omega) (by omega)).mpr q__)
      refine r_bipush 49 rfl 9 dX10_forceOf_47 (by decide) ?_
      refine r_goto 53 dX10_forceOf_49 rfl ?_
      refine r_ireturn rfl dX10_forceOf_53 (Nat.le_of_ble_eq_true rfl) (Nat.le_of_ble_eq_true rfl) ?_
      have e : (9 : Int32) = nI (so_fo kd sg bt) := by
        unfold so_fo
        first | rw [if_pos c21] | rw [if_neg c21]
        rw [if_pos (by omega)]; rfl
      rw [e]
      exact k

set_option maxHeartbeats 4000000 in
set_option maxRecDepth 20000 in
theorem c_X10_beside {Q : am_P} {h : Nat → am_E} {n : Nat} {c w : Nat} (hc : c < 8) (hw1 : 1 ≤ w) (hw4 : w ≤ 4) (k1 : ∀ t, sp_to c w = some t → t < 8 → Q (some (.int (nI t))) h n) (k0 : sp_to c w = none → Q (some (.int (-1))) h n) : AW mX10_beside Q 0 (am_ent (am_l mX10_beside) [.int (nI c), .int (nI w)]) [] h n 0 0 := by
  show AW _ _ 0 [some (.int (nI c)), some (.int (nI w)), none] [] _ _ 0 0
  rcases (show w = 1 ∨ w = 2 ∨ w = 3 ∨ w = 4 by omega) with rfl | rfl | rfl | rfl
  · refine r_iload_n 1 rfl 0 dX10_beside_0 rfl rfl ?_
    refine r_iconst 2 rfl 4 dX10_beside_1 rfl ?_
    refine r_irem 3 rfl dX10_beside_2 (by decide) ?_
    rw [show (nI c) - (nI c) / 4 * 4 = nI (c % 4) from pk_rem (a := c) (d := 4) (by omega) (by decide) (by decide)]
    refine r_istore_n 4 rfl 2 [some (.int (nI c)), some (.int (nI 1)), some (.int (nI (c % 4)))] dX10_beside_3 rfl (by decide) rfl ?_
    refine r_iload_n 5 rfl 1 dX10_beside_4 rfl rfl ?_
    refine r_iconst 6 rfl 1 dX10_beside_5 rfl ?_
    refine r_icmp_ne 9 22 rfl dX10_beside_6 rfl (fun q__ => absurd ((nI_eq (a := 1) (b := 1) (by omega) (by omega)).mpr (by omega)) q__) (fun _ => ?_)
    refine r_iload_n 10 rfl 2 dX10_beside_9 rfl rfl ?_
    refine r_iconst 11 rfl 3 dX10_beside_10 rfl ?_
    refine r_icmp_ge 14 20 rfl dX10_beside_11 rfl (fun c11 => ?_) (fun c11 => ?_)
    · replace c11 : 3 ≤ c % 4 := (nI_leI (a := 3) (b := (c % 4)) (by omega) (by omega)).mp c11
      refine r_iconst 21 rfl (-1) dX10_beside_20 rfl ?_
      refine r_ireturn rfl dX10_beside_21 (Nat.le_of_ble_eq_true rfl) (Nat.le_of_ble_eq_true rfl) ?_
      exact k0 (by simp [sp_to, *]; try omega)
    · replace c11 : ¬ 3 ≤ (c % 4) := fun q__ => c11 ((nI_leI (a := 3) (b := (c % 4)) (by omega) (by omega)).mpr q__)
      refine r_iload_n 15 rfl 0 dX10_beside_14 rfl rfl ?_
      refine r_iconst 16 rfl 1 dX10_beside_15 rfl ?_
      refine r_iadd 17 rfl dX10_beside_16 ?_
      rw [show (nI c) + 1 = nI (c + 1) from nI_add c 1]
      refine r_goto 21 dX10_beside_17 rfl ?_
      refine r_ireturn rfl dX10_beside_21 (Nat.le_of_ble_eq_true rfl) (Nat.le_of_ble_eq_true rfl) ?_
      exact k1 _ (by simp [sp_to, *]) (by omega)
  · refine r_iload_n 1 rfl 0 dX10_beside_0 rfl rfl ?_
    refine r_iconst 2 rfl 4 dX10_beside_1 rfl ?_
    refine r_irem 3 rfl dX10_beside_2 (by decide) ?_
    rw [show (nI c) - (nI c) / 4 * 4 = nI (c % 4) from pk_rem (a := c) (d := 4) (by omega) (by decide) (by decide)]
    refine r_istore_n 4 rfl 2 [some (.int (nI c)), some (.int (nI 2)), some (.int (nI (c % 4)))] dX10_beside_3 rfl (by decide) rfl ?_
    refine r_iload_n 5 rfl 1 dX10_beside_4 rfl rfl ?_
    refine r_iconst 6 rfl 1 dX10_beside_5 rfl ?_
    refine r_icmp_ne 9 22 rfl dX10_beside_6 rfl (fun _ => ?_) (fun q__ => absurd q__ (fun q__ => absurd ((nI_eq (a := 2) (b := 1) (by omega) (by omega)).mp q__) (by omega)))
    refine r_iload_n 23 rfl 1 dX10_beside_22 rfl rfl ?_
    refine r_iconst 24 rfl 2 dX10_beside_23 rfl ?_
    refine r_icmp_ne 27 39 rfl dX10_beside_24 rfl (fun q__ => absurd ((nI_eq (a := 2) (b := 2) (by omega) (by omega)).mpr (by omega)) q__) (fun _ => ?_)
    refine r_iload_n 28 rfl 2 dX10_beside_27 rfl rfl ?_
    refine r_if_le 31 37 rfl dX10_beside_28 rfl (fun c28 => ?_) (fun c28 => ?_)
    · replace c28 : c % 4 ≤ 0 := (nI_leI (a := (c % 4)) (b := 0) (by omega) (by omega)).mp c28
      refine r_iconst 38 rfl (-1) dX10_beside_37 rfl ?_
      refine r_ireturn rfl dX10_beside_38 (Nat.le_of_ble_eq_true rfl) (Nat.le_of_ble_eq_true rfl) ?_
      exact k0 (by simp [sp_to, *]; try omega)
    · replace c28 : ¬ (c % 4) ≤ 0 := fun q__ => c28 ((nI_leI (a := (c % 4)) (b := 0) (by omega) (by omega)).mpr q__)
      refine r_iload_n 32 rfl 0 dX10_beside_31 rfl rfl ?_
      refine r_iconst 33 rfl 1 dX10_beside_32 rfl ?_
      refine r_isub 34 rfl dX10_beside_33 ?_
      refine r_goto 38 dX10_beside_34 rfl ?_
      refine r_ireturn rfl dX10_beside_38 (Nat.le_of_ble_eq_true rfl) (Nat.le_of_ble_eq_true rfl) ?_
      rw [show (nI c) - 1 = nI (c - 1) from pk_sub (show 1 ≤ c by omega)]
      exact k1 _ (by first | (simp [sp_to, *]; done) | (simp [sp_to, *]; omega)) (by omega)
  · refine r_iload_n 1 rfl 0 dX10_beside_0 rfl rfl ?_
    refine r_iconst 2 rfl 4 dX10_beside_1 rfl ?_
    refine r_irem 3 rfl dX10_beside_2 (by decide) ?_
    rw [show (nI c) - (nI c) / 4 * 4 = nI (c % 4) from pk_rem (a := c) (d := 4) (by omega) (by decide) (by decide)]
    refine r_istore_n 4 rfl 2 [some (.int (nI c)), some (.int (nI 3)), some (.int (nI (c % 4)))] dX10_beside_3 rfl (by decide) rfl ?_
    refine r_iload_n 5 rfl 1 dX10_beside_4 rfl rfl ?_
    refine r_iconst 6 rfl 1 dX10_beside_5 rfl ?_
    refine r_icmp_ne 9 22 rfl dX10_beside_6 rfl (fun _ => ?_) (fun q__ => absurd q__ (fun q__ => absurd ((nI_eq (a := 3) (b := 1) (by omega) (by omega)).mp q__) (by omega)))
    refine r_iload_n 23 rfl 1 dX10_beside_22 rfl rfl ?_
    refine r_iconst 24 rfl 2 dX10_beside_23 rfl ?_
    refine r_icmp_ne 27 39 rfl dX10_beside_24 rfl (fun _ => ?_) (fun q__ => absurd q__ (fun q__ => absurd ((nI_eq (a := 3) (b := 2) (by omega) (by omega)).mp q__) (by omega)))
    refine r_iload_n 40 rfl 1 dX10_beside_39 rfl rfl ?_
    refine r_iconst 41 rfl 3 dX10_beside_40 rfl ?_
    refine r_icmp_ne 44 59 rfl dX10_beside_41 rfl (fun q__ => absurd ((nI_eq (a := 3) (b := 3) (by omega) (by omega)).mpr (by omega)) q__) (fun _ => ?_)
    refine r_iload_n 45 rfl 0 dX10_beside_44 rfl rfl ?_
    refine r_iconst 46 rfl 4 dX10_beside_45 rfl ?_
    refine r_icmp_ge 49 55 rfl dX10_beside_46 rfl (fun c46 => ?_) (fun c46 => ?_)
    · replace c46 : 4 ≤ c := (nI_leI (a := 4) (b := c) (by omega) (by omega)).mp c46
      refine r_iconst 56 rfl (-1) dX10_beside_55 rfl ?_
      refine r_goto 71 dX10_beside_56 rfl ?_
      refine r_ireturn rfl dX10_beside_71 (Nat.le_of_ble_eq_true rfl) (Nat.le_of_ble_eq_true rfl) ?_
      exact k0 (by simp [sp_to, *]; try omega)
    · replace c46 : ¬ 4 ≤ c := fun q__ => c46 ((nI_leI (a := 4) (b := c) (by omega) (by omega)).mpr q__)
      refine r_iload_n 50 rfl 0 dX10_beside_49 rfl rfl ?_
      refine r_iconst 51 rfl 4 dX10_beside_50 rfl ?_
      refine r_iadd 52 rfl dX10_beside_51 ?_
      rw [show (nI c) + 4 = nI (c + 4) from nI_add c 4]
      refine r_goto 71 dX10_beside_52 rfl ?_
      refine r_ireturn rfl dX10_beside_71 (Nat.le_of_ble_eq_true rfl) (Nat.le_of_ble_eq_true rfl) ?_
      exact k1 _ (by simp [sp_to, *]) (by omega)
  · refine r_iload_n 1 rfl 0 dX10_beside_0 rfl rfl ?_
    refine r_iconst 2 rfl 4 dX10_beside_1 rfl ?_
    refine r_irem 3 rfl dX10_beside_2 (by decide) ?_
    rw [show (nI c) - (nI c) / 4 * 4 = nI (c % 4) from pk_rem (a := c) (d := 4) (by omega) (by decide) (by decide)]
    refine r_istore_n 4 rfl 2 [some (.int (nI c)), some (.int (nI 4)), some (.int (nI (c % 4)))] dX10_beside_3 rfl (by decide) rfl ?_
    refine r_iload_n 5 rfl 1 dX10_beside_4 rfl rfl ?_
    refine r_iconst 6 rfl 1 dX10_beside_5 rfl ?_
    refine r_icmp_ne 9 22 rfl dX10_beside_6 rfl (fun _ => ?_) (fun q__ => absurd q__ (fun q__ => absurd ((nI_eq (a := 4) (b := 1) (by omega) (by omega)).mp q__) (by omega)))
    refine r_iload_n 23 rfl 1 dX10_beside_22 rfl rfl ?_
    refine r_iconst 24 rfl 2 dX10_beside_23 rfl ?_
    refine r_icmp_ne 27 39 rfl dX10_beside_24 rfl (fun _ => ?_) (fun q__ => absurd q__ (fun q__ => absurd ((nI_eq (a := 4) (b := 2) (by omega) (by omega)).mp q__) (by omega)))
    refine r_iload_n 40 rfl 1 dX10_beside_39 rfl rfl ?_
    refine r_iconst 41 rfl 3 dX10_beside_40 rfl ?_
    refine r_icmp_ne 44 59 rfl dX10_beside_41 rfl (fun _ => ?_) (fun q__ => absurd q__ (fun q__ => absurd ((nI_eq (a := 4) (b := 3) (by omega) (by omega)).mp q__) (by omega)))
    refine r_iload_n 60 rfl 0 dX10_beside_59 rfl rfl ?_
    refine r_iconst 61 rfl 3 dX10_beside_60 rfl ?_
    refine r_icmp_le 64 70 rfl dX10_beside_61 rfl (fun c61 => ?_) (fun c61 => ?_)
    · replace c61 : c ≤ 3 := (nI_leI (a := c) (b := 3) (by omega) (by omega)).mp c61
      refine r_iconst 71 rfl (-1) dX10_beside_70 rfl ?_
      refine r_ireturn rfl dX10_beside_71 (Nat.le_of_ble_eq_true rfl) (Nat.le_of_ble_eq_true rfl) ?_
      exact k0 (by simp [sp_to, *]; try omega)
    · replace c61 : ¬ c ≤ 3 := fun q__ => c61 ((nI_leI (a := c) (b := 3) (by omega) (by omega)).mpr q__)
      refine r_iload_n 65 rfl 0 dX10_beside_64 rfl rfl ?_
      refine r_iconst 66 rfl 4 dX10_beside_65 rfl ?_
      refine r_isub 67 rfl dX10_beside_66 ?_
      refine r_goto 71 dX10_beside_67 rfl ?_
      refine r_ireturn rfl dX10_beside_71 (Nat.le_of_ble_eq_true rfl) (Nat.le_of_ble_eq_true rfl) ?_
      rw [show (nI c) - 4 = nI (c - 4) from pk_sub (show 4 ≤ c by omega)]
      exact k1 _ (by first | (simp [sp_to, *]; done) | (simp [sp_to, *]; omega)) (by omega)

set_option maxHeartbeats 4000000 in
set_option maxRecDepth 20000 in
theorem c_X10_against {Q : am_P} {h : Nat → am_E} {n : Nat} {w : Nat} (hw4 : w ≤ 4) (k : Q (some (.int (nI (if w = 0 then 0 else sp_opp w)))) h n) : AW mX10_against Q 0 (am_ent (am_l mX10_against) [.int (nI w)]) [] (h) n 0 0 := by
  show AW _ _ 0 [some (.int (nI w))] [] _ _ 0 0
  refine r_iload_n 1 rfl 0 dX10_against_0 rfl rfl ?_
  refine r_if_ne 4 8 rfl dX10_against_1 rfl (fun c1 => ?_) (fun c1 => ?_)
  · replace c1 : ¬ w = 0 := fun q__ => c1 ((nI_eq (a := w) (b := 0) (by omega) (by omega)).mpr q__)
    refine r_iload_n 9 rfl 0 dX10_against_8 rfl rfl ?_
    refine r_iconst 10 rfl 2 dX10_against_9 rfl ?_
    refine r_irem 11 rfl dX10_against_10 (by decide) ?_
    rw [show (nI w) - (nI w) / 2 * 2 = nI (w % 2) from pk_rem (a := w) (d := 2) (by omega) (by decide) (by decide)]
    refine r_iconst 12 rfl 1 dX10_against_11 rfl ?_
    refine r_icmp_ne 15 21 rfl dX10_against_12 rfl (fun c12 => ?_) (fun c12 => ?_)
    · replace c12 : ¬ (w % 2) = 1 := fun q__ => c12 ((nI_eq (a := (w % 2)) (b := 1) (by omega) (by omega)).mpr q__)
      refine r_iload_n 22 rfl 0 dX10_against_21 rfl rfl ?_
      refine r_iconst 23 rfl 1 dX10_against_22 rfl ?_
      refine r_isub 24 rfl dX10_against_23 ?_
      refine r_ireturn rfl dX10_against_24 (Nat.le_of_ble_eq_true rfl) (Nat.le_of_ble_eq_true rfl) ?_
      rw [if_neg (by omega)] at k
      unfold sp_opp at k
      rw [if_neg (by omega)] at k
      rw [show (nI w) - 1 = nI (w - 1) from pk_sub (show 1 ≤ w by omega)]
      exact k
    · replace c12 : w % 2 = 1 := (nI_eq (a := (w % 2)) (b := 1) (by omega) (by omega)).mp c12
      refine r_iload_n 16 rfl 0 dX10_against_15 rfl rfl ?_
      refine r_iconst 17 rfl 1 dX10_against_16 rfl ?_
      refine r_iadd 18 rfl dX10_against_17 ?_
      rw [show (nI w) + 1 = nI (w + 1) from nI_add w 1]
      refine r_goto 24 dX10_against_18 rfl ?_
      refine r_ireturn rfl dX10_against_24 (Nat.le_of_ble_eq_true rfl) (Nat.le_of_ble_eq_true rfl) ?_
      rw [if_neg (by omega)] at k
      unfold sp_opp at k
      rw [if_pos (by omega)] at k
      exact k
  · replace c1 : w = 0 := (nI_eq (a := w) (b := 0) (by omega) (by omega)).mp c1
    refine r_iconst 5 rfl 0 dX10_against_4 rfl ?_
    refine r_goto 24 dX10_against_5 rfl ?_
    refine r_ireturn rfl dX10_against_24 (Nat.le_of_ble_eq_true rfl) (Nat.le_of_ble_eq_true rfl) ?_
    rw [if_pos (by omega)] at k
    exact k

set_option maxHeartbeats 4000000 in
set_option maxRecDepth 20000 in
theorem c_X10_lossOf {Q : am_P} {z : am_Z} {m : Nat → Nat → Int32} {n : Nat} (g : Nat → Nat) (hg : ∀ j, j < 8 → m 39 j = nI (g j) ∧ g j ≤ 2) {fd : Nat} (hfd : m 37 2 = nI fd) (hf1 : 1 ≤ fd) (hf3 : fd ≤ 3) {kd t w wi : Nat} (hk4 : kd ≤ 4) (ht : t < 8) (hw1 : 1 ≤ w) (hw4 : w ≤ 4) (hwi : m 37 3 = nI wi) (hwi4 : wi ≤ 4) (k : Q (some (.int (nI (sp_loss fd (so_ea kd) wi w (g t))))) (wd z m) n) : AW mX10_lossOf Q 0 (am_ent (am_l mX10_lossOf) [.ref 37, .int (nI kd), .int (nI w), .int (nI t)]) [] (wd z m) n 0 0 := by
  show AW _ _ 0 [some (.ref 37), some (.int (nI kd)), some (.int (nI w)), some (.int (nI t)), none] [] _ _ 0 0
  have hb := (hg t ht).2
  have ho : (if wi = 0 then 0 else sp_opp wi) ≤ 5 := by unfold sp_opp; split <;> (try split) <;> omega
  refine r_aload_n 1 rfl 0 dX10_lossOf_0 rfl rfl ?_
  refine r_getf (v := .int ((m 37) 2)) (k := 2) 4 rfl dX10_lossOf_1 (gf_X10_83_10 rfl) rfl rfl ?_
  rw [show (m 37) 2 = nI fd from hfd]
  refine r_iload_n 5 rfl 1 dX10_lossOf_4 rfl rfl ?_
  refine r_iconst 6 rfl 2 dX10_lossOf_5 rfl ?_
  refine r_icmp_le 9 13 rfl dX10_lossOf_6 rfl (fun c6 => ?_) (fun c6 => ?_)
  · replace c6 : kd ≤ 2 := (nI_leI (a := kd) (b := 2) (by omega) (by omega)).mp c6
    refine r_iconst 14 rfl 0 dX10_lossOf_13 rfl ?_
    refine r_isub 15 rfl dX10_lossOf_14 ?_
    refine r_istore 17 rfl [some (.ref 37), some (.int (nI kd)), some (.int (nI w)), some (.int (nI t)), some (.int ((nI fd) - 0))] dX10_lossOf_15 (by decide) rfl ?_
    refine r_iload 19 rfl dX10_lossOf_17 rfl ?_
    refine r_iload_n 20 rfl 2 dX10_lossOf_19 rfl rfl ?_
    refine r_aload_n 21 rfl 0 dX10_lossOf_20 rfl rfl ?_
    refine r_getf (v := .int ((m 37) 3)) (k := 3) 24 rfl dX10_lossOf_21 (gf_X10_86_10 rfl) rfl rfl ?_
    rw [show (m 37) 3 = nI wi from hwi]
    refine r_icmp_ne 27 31 rfl dX10_lossOf_24 rfl (fun c24 => ?_) (fun c24 => ?_)
    · replace c24 : ¬ w = wi := fun q__ => c24 ((nI_eq (a := w) (b := wi) (by omega) (by omega)).mpr q__)
      refine r_aload_n 32 rfl 0 dX10_lossOf_31 rfl rfl ?_
      refine r_getf (v := .int ((m 37) 3)) (k := 3) 35 rfl dX10_lossOf_32 (gf_X10_86_10 rfl) rfl rfl ?_
      rw [show (m 37) 3 = nI wi from hwi]
      refine r_if_le 38 53 rfl dX10_lossOf_35 rfl (fun c35 => ?_) (fun c35 => ?_)
      · replace c35 : wi ≤ 0 := (nI_leI (a := wi) (b := 0) (by omega) (by omega)).mp c35
        refine r_iconst 54 rfl 0 dX10_lossOf_53 rfl ?_
        refine r_iadd 55 rfl dX10_lossOf_54 ?_
        refine r_istore 57 rfl [some (.ref 37), some (.int (nI kd)), some (.int (nI w)), some (.int (nI t)), some (.int (((nI fd) - 0) + 0))] dX10_lossOf_55 (by decide) rfl ?_
        refine r_iload 59 rfl dX10_lossOf_57 rfl ?_
        refine r_aload_n 60 rfl 0 dX10_lossOf_59 rfl rfl ?_
        refine r_getf (v := .ref 39) (k := 7) 63 rfl dX10_lossOf_60 (gf_X10_13_10 rfl) rfl rfl ?_
        refine r_iload_n 64 rfl 3 dX10_lossOf_63 rfl rfl ?_
        refine r_iald (f := m 39) 65 rfl t dX10_lossOf_64 rfl rfl (by omega) (by decide) ?_
        rw [show (m 39) t = nI (g t) from (hg t ht).1]
        refine r_iconst 66 rfl 2 dX10_lossOf_65 rfl ?_
        refine r_icmp_ne 69 73 rfl dX10_lossOf_66 rfl (fun c66 => ?_) (fun c66 => ?_)
        · replace c66 : ¬ (g t) = 2 := fun q__ => c66 ((nI_eq (a := (g t)) (b := 2) (by omega) (by omega)).mpr q__)
          refine r_iconst 74 rfl 0 dX10_lossOf_73 rfl ?_
          refine r_iadd 75 rfl dX10_lossOf_74 ?_
          refine r_istore 77 rfl [some (.ref 37), some (.int (nI kd)), some (.int (nI w)), some (.int (nI t)), some (.int ((((nI fd) - 0) + 0) + 0))] dX10_lossOf_75 (by decide) rfl ?_
          refine r_iload 79 rfl dX10_lossOf_77 rfl ?_
          refine r_if_ge 82 86 rfl dX10_lossOf_79 rfl (fun c79 => ?_) (fun c79 => ?_)
          · refine r_iload 88 rfl dX10_lossOf_86 rfl ?_
            refine r_ireturn rfl dX10_lossOf_88 (Nat.le_of_ble_eq_true rfl) (Nat.le_of_ble_eq_true rfl) ?_
            have hea : so_ea kd = 0 := by unfold so_ea; rw [if_neg (by omega)]
            have e : ((((nI fd) - 0) + 0) + 0) = nI (sp_loss fd (so_ea kd) wi w (g t)) := by
              rw [hea]
              unfold sp_loss sp_opp
              first | rw [if_pos c66] | rw [if_neg c66]
              revert c79
              rcases (show wi = 0 ∨ wi = 1 ∨ wi = 2 ∨ wi = 3 ∨ wi = 4 by omega) with rfl | rfl | rfl | rfl | rfl <;> rcases (show w = 1 ∨ w = 2 ∨ w = 3 ∨ w = 4 by omega) with rfl | rfl | rfl | rfl <;> first | (exfalso; first | omega | (simp [sp_opp] at c46; done)) | (rcases (show fd = 1 ∨ fd = 2 ∨ fd = 3 by omega) with rfl | rfl | rfl <;> decide +kernel)
            rw [e]
            exact k
          · refine r_iconst 83 rfl 0 dX10_lossOf_82 rfl ?_
            refine r_goto 88 dX10_lossOf_83 rfl ?_
            refine r_ireturn rfl dX10_lossOf_88 (Nat.le_of_ble_eq_true rfl) (Nat.le_of_ble_eq_true rfl) ?_
            have hea : so_ea kd = 0 := by unfold so_ea; rw [if_neg (by omega)]
            have e : (0 : Int32) = nI (sp_loss fd (so_ea kd) wi w (g t)) := by
              rw [hea]
              unfold sp_loss sp_opp
              first | rw [if_pos c66] | rw [if_neg c66]
              revert c79
              rcases (show wi = 0 ∨ wi = 1 ∨ wi = 2 ∨ wi = 3 ∨ wi = 4 by omega) with rfl | rfl | rfl | rfl | rfl <;> rcases (show w = 1 ∨ w = 2 ∨ w = 3 ∨ w = 4 by omega) with rfl | rfl | rfl | rfl <;> first | (exfalso; first | omega | (simp [sp_opp] at c46; done)) | (rcases (show fd = 1 ∨ fd = 2 ∨ fd = 3 by omega) with rfl | rfl | rfl <;> decide +kernel)
            rw [e]
            exact k
        · replace c66 : g t = 2 := (nI_eq (a := (g t)) (b := 2) (by omega) (by omega)).mp c66
          refine r_iconst 70 rfl 2 dX10_lossOf_69 rfl ?_
          refine r_goto 74 dX10_lossOf_70 rfl ?_
          refine r_iadd 75 rfl dX10_lossOf_74 ?_
          refine r_istore 77 rfl [some (.ref 37), some (.int (nI kd)), some (.int (nI w)), some (.int (nI t)), some (.int ((((nI fd) - 0) + 0) + 2))] dX10_lossOf_75 (by decide) rfl ?_
          refine r_iload 79 rfl dX10_lossOf_77 rfl ?_
          refine r_if_ge 82 86 rfl dX10_lossOf_79 rfl (fun c79 => ?_) (fun c79 => ?_)
          · refine r_iload 88 rfl dX10_lossOf_86 rfl ?_
            refine r_ireturn rfl dX10_lossOf_88 (Nat.le_of_ble_eq_true rfl) (Nat.le_of_ble_eq_true rfl) ?_
            have hea : so_ea kd = 0 := by unfold so_ea; rw [if_neg (by omega)]
            have e : ((((nI fd) - 0) + 0) + 2) = nI (sp_loss fd (so_ea kd) wi w (g t)) := by
              rw [hea]
              unfold sp_loss sp_opp
              first | rw [if_pos c66] | rw [if_neg c66]
              revert c79
              rcases (show wi = 0 ∨ wi = 1 ∨ wi = 2 ∨ wi = 3 ∨ wi = 4 by omega) with rfl | rfl | rfl | rfl | rfl <;> rcases (show w = 1 ∨ w = 2 ∨ w = 3 ∨ w = 4 by omega) with rfl | rfl | rfl | rfl <;> first | (exfalso; first | omega | (simp [sp_opp] at c46; done)) | (rcases (show fd = 1 ∨ fd = 2 ∨ fd = 3 by omega) with rfl | rfl | rfl <;> decide +kernel)
            rw [e]
            exact k
          · refine r_iconst 83 rfl 0 dX10_lossOf_82 rfl ?_
            refine r_goto 88 dX10_lossOf_83 rfl ?_
            refine r_ireturn rfl dX10_lossOf_88 (Nat.le_of_ble_eq_true rfl) (Nat.le_of_ble_eq_true rfl) ?_
            have hea : so_ea kd = 0 := by unfold so_ea; rw [if_neg (by omega)]
            have e : (0 : Int32) = nI (sp_loss fd (so_ea kd) wi w (g t)) := by
              rw [hea]
              unfold sp_loss sp_opp
              first | rw [if_pos c66] | rw [if_neg c66]
              revert c79
              rcases (show wi = 0 ∨ wi = 1 ∨ wi = 2 ∨ wi = 3 ∨ wi = 4 by omega) with rfl | rfl | rfl | rfl | rfl <;> rcases (show w = 1 ∨ w = 2 ∨ w = 3 ∨ w = 4 by omega) with rfl | rfl | rfl | rfl <;> first | (exfalso; first | omega | (simp [sp_opp] at c46; done)) | (rcases (show fd = 1 ∨ fd = 2 ∨ fd = 3 by omega) with rfl | rfl | rfl <;> decide +kernel)
            rw [e]
            exact k
      · replace c35 : ¬ wi ≤ 0 := fun q__ => c35 ((nI_leI (a := wi) (b := 0) (by omega) (by omega)).mpr q__)
        refine r_iload_n 39 rfl 2 dX10_lossOf_38 rfl rfl ?_
        refine r_aload_n 40 rfl 0 dX10_lossOf_39 rfl rfl ?_
        refine r_getf (v := .int ((m 37) 3)) (k := 3) 43 rfl dX10_lossOf_40 (gf_X10_86_10 rfl) rfl rfl ?_
        rw [show (m 37) 3 = nI wi from hwi]
        refine q_S 46 0 0 rfl [.int (nI wi)] rfl dX10_lossOf_43 cl_X10_lossOf__X10_against (lk_X10_127 rfl) st_X10_against (Nat.le_of_ble_eq_true rfl) (fun _ _ => Nat.le_of_ble_eq_true rfl) rfl rfl (Nat.le_of_ble_eq_true rfl) (Nat.le_of_ble_eq_true rfl) ?_
        refine c_X10_against hwi4 (k_i ?_)
        refine r_icmp_ne 49 53 rfl dX10_lossOf_46 rfl (fun c46 => ?_) (fun c46 => ?_)
        · replace c46 : ¬ w = (if wi = 0 then 0 else sp_opp wi) := fun q__ => c46 ((nI_eq (a := w) (b := (if wi = 0 then 0 else sp_opp wi)) (by omega) (by omega)).mpr q__)
          refine r_iconst 54 rfl 0 dX10_lossOf_53 rfl ?_
          refine r_iadd 55 rfl dX10_lossOf_54 ?_
          refine r_istore 57 rfl [some (.ref 37), some (.int (nI kd)), some (.int (nI w)), some (.int (nI t)), some (.int (((nI fd) - 0) + 0))] dX10_lossOf_55 (by decide) rfl ?_
          refine r_iload 59 rfl dX10_lossOf_57 rfl ?_
          refine r_aload_n 60 rfl 0 dX10_lossOf_59 rfl rfl ?_
          refine r_getf (v := .ref 39) (k := 7) 63 rfl dX10_lossOf_60 (gf_X10_13_10 rfl) rfl rfl ?_
          refine r_iload_n 64 rfl 3 dX10_lossOf_63 rfl rfl ?_
          refine r_iald (f := m 39) 65 rfl t dX10_lossOf_64 rfl rfl (by omega) (by decide) ?_
          rw [show (m 39) t = nI (g t) from (hg t ht).1]
          refine r_iconst 66 rfl 2 dX10_lossOf_65 rfl ?_
          refine r_icmp_ne 69 73 rfl dX10_lossOf_66 rfl (fun c66 => ?_) (fun c66 => ?_)
          · replace c66 : ¬ (g t) = 2 := fun q__ => c66 ((nI_eq (a := (g t)) (b := 2) (by omega) (by omega)).mpr q__)
            refine r_iconst 74 rfl 0 dX10_lossOf_73 rfl ?_
            refine r_iadd 75 rfl dX10_lossOf_74 ?_
            refine r_istore 77 rfl [some (.ref 37), some (.int (nI kd)), some (.int (nI w)), some (.int (nI t)), some (.int ((((nI fd) - 0) + 0) + 0))] dX10_lossOf_75 (by decide) rfl ?_
            refine r_iload 79 rfl dX10_lossOf_77 rfl ?_
            refine r_if_ge 82 86 rfl dX10_lossOf_79 rfl (fun c79 => ?_) (fun c79 => ?_)
            · refine r_iload 88 rfl dX10_lossOf_86 rfl ?_
              refine r_ireturn rfl dX10_lossOf_88 (Nat.le_of_ble_eq_true rfl) (Nat.le_of_ble_eq_true rfl) ?_
              have hea : so_ea kd = 0 := by unfold so_ea; rw [if_neg (by omega)]
              have e : ((((nI fd) - 0) + 0) + 0) = nI (sp_loss fd (so_ea kd) wi w (g t)) := by
                rw [hea]
                unfold sp_loss sp_opp
                first | rw [if_pos c66] | rw [if_neg c66]
                revert c79
                rcases (show wi = 0 ∨ wi = 1 ∨ wi = 2 ∨ wi = 3 ∨ wi = 4 by omega) with rfl | rfl | rfl | rfl | rfl <;> rcases (show w = 1 ∨ w = 2 ∨ w = 3 ∨ w = 4 by omega) with rfl | rfl | rfl | rfl <;> first | (exfalso; first | omega | (simp [sp_opp] at c46; done)) | (rcases (show fd = 1 ∨ fd = 2 ∨ fd = 3 by omega) with rfl | rfl | rfl <;> decide +kernel)
              rw [e]
              exact k
            · refine r_iconst 83 rfl 0 dX10_lossOf_82 rfl ?_
              refine r_goto 88 dX10_lossOf_83 rfl ?_
              refine r_ireturn rfl dX10_lossOf_88 (Nat.le_of_ble_eq_true rfl) (Nat.le_of_ble_eq_true rfl) ?_
              have hea : so_ea kd = 0 := by unfold so_ea; rw [if_neg (by omega)]
              have e : (0 : Int32) = nI (sp_loss fd (so_ea kd) wi w (g t)) := by
                rw [hea]
                unfold sp_loss sp_opp
                first | rw [if_pos c66] | rw [if_neg c66]
                revert c79
                rcases (show wi = 0 ∨ wi = 1 ∨ wi = 2 ∨ wi = 3 ∨ wi = 4 by omega) with rfl | rfl | rfl | rfl | rfl <;> rcases (show w = 1 ∨ w = 2 ∨ w = 3 ∨ w = 4 by omega) with rfl | rfl | rfl | rfl <;> first | (exfalso; first | omega | (simp [sp_opp] at c46; done)) | (rcases (show fd = 1 ∨ fd = 2 ∨ fd = 3 by omega) with rfl | rfl | rfl <;> decide +kernel)
              rw [e]
              exact k
          · replace c66 : g t = 2 := (nI_eq (a := (g t)) (b := 2) (by omega) (by omega)).mp c66
            refine r_iconst 70 rfl 2 dX10_lossOf_69 rfl ?_
            refine r_goto 74 dX10_lossOf_70 rfl ?_
            refine r_iadd 75 rfl dX10_lossOf_74 ?_
            refine r_istore 77 rfl [some (.ref 37), some (.int (nI kd)), some (.int (nI w)), some (.int (nI t)), some (.int ((((nI fd) - 0) + 0) + 2))] dX10_lossOf_75 (by decide) rfl ?_
            refine r_iload 79 rfl dX10_lossOf_77 rfl ?_
            refine r_if_ge 82 86 rfl dX10_lossOf_79 rfl (fun c79 => ?_) (fun c79 => ?_)
            · refine r_iload 88 rfl dX10_lossOf_86 rfl ?_
              refine r_ireturn rfl dX10_lossOf_88 (Nat.le_of_ble_eq_true rfl) (Nat.le_of_ble_eq_true rfl) ?_
              have hea : so_ea kd = 0 := by unfold so_ea; rw [if_neg (by omega)]
              have e : ((((nI fd) - 0) + 0) + 2) = nI (sp_loss fd (so_ea kd) wi w (g t)) := by
                rw [hea]
                unfold sp_loss sp_opp
                first | rw [if_pos c66] | rw [if_neg c66]
                revert c79
                rcases (show wi = 0 ∨ wi = 1 ∨ wi = 2 ∨ wi = 3 ∨ wi = 4 by omega) with rfl | rfl | rfl | rfl | rfl <;> rcases (show w = 1 ∨ w = 2 ∨ w = 3 ∨ w = 4 by omega) with rfl | rfl | rfl | rfl <;> first | (exfalso; first | omega | (simp [sp_opp] at c46; done)) | (rcases (show fd = 1 ∨ fd = 2 ∨ fd = 3 by omega) with rfl | rfl | rfl <;> decide +kernel)
              rw [e]
              exact k
            · refine r_iconst 83 rfl 0 dX10_lossOf_82 rfl ?_
              refine r_goto 88 dX10_lossOf_83 rfl ?_
              refine r_ireturn rfl dX10_lossOf_88 (Nat.le_of_ble_eq_true rfl) (Nat.le_of_ble_eq_true rfl) ?_
              have hea : so_ea kd = 0 := by unfold so_ea; rw [if_neg (by omega)]
              have e : (0 : Int32) = nI (sp_loss fd (so_ea kd) wi w (g t)) := by
                rw [hea]
                unfold sp_loss sp_opp
                first | rw [if_pos c66] | rw [if_neg c66]
                revert c79
                rcases (show wi = 0 ∨ wi = 1 ∨ wi = 2 ∨ wi = 3 ∨ wi = 4 by omega) with rfl | rfl | rfl | rfl | rfl <;> rcases (show w = 1 ∨ w = 2 ∨ w = 3 ∨ w = 4 by omega) with rfl | rfl | rfl | rfl <;> first | (exfalso; first | omega | (simp [sp_opp] at c46; done)) | (rcases (show fd = 1 ∨ fd = 2 ∨ fd = 3 by omega) with rfl | rfl | rfl <;> decide +kernel)
              rw [e]
              exact k
        · replace c46 : w = if wi = 0 then 0 else sp_opp wi := (nI_eq (a := w) (b := (if wi = 0 then 0 else sp_opp wi)) (by omega) (by omega)).mp c46
          refine r_iconst 50 rfl 1 dX10_lossOf_49 rfl ?_
          refine r_goto 54 dX10_lossOf_50 rfl ?_
          refine r_iadd 55 rfl dX10_lossOf_54 ?_
          refine r_istore 57 rfl [some (.ref 37), some (.int (nI kd)), some (.int (nI w)), some (.int (nI t)), some (.int (((nI fd) - 0) + 1))] dX10_lossOf_55 (by decide) rfl ?_
          refine r_iload 59 rfl dX10_lossOf_57 rfl ?_
          refine r_aload_n 60 rfl 0 dX10_lossOf_59 rfl rfl ?_
          refine r_getf (v := .ref 39) (k := 7) 63 rfl dX10_lossOf_60 (gf_X10_13_10 rfl) rfl rfl ?_
          refine r_iload_n 64 rfl 3 dX10_lossOf_63 rfl rfl ?_
          refine r_iald (f := m 39) 65 rfl t dX10_lossOf_64 rfl rfl (by omega) (by decide) ?_
          rw [show (m 39) t = nI (g t) from (hg t ht).1]
          refine r_iconst 66 rfl 2 dX10_lossOf_65 rfl ?_
          refine r_icmp_ne 69 73 rfl dX10_lossOf_66 rfl (fun c66 => ?_) (fun c66 => ?_)
          · replace c66 : ¬ (g t) = 2 := fun q__ => c66 ((nI_eq (a := (g t)) (b := 2) (by omega) (by omega)).mpr q__)
            refine r_iconst 74 rfl 0 dX10_lossOf_73 rfl ?_
            refine r_iadd 75 rfl dX10_lossOf_74 ?_
            refine r_istore 77 rfl [some (.ref 37), some (.int (nI kd)), some (.int (nI w)), some (.int (nI t)), some (.int ((((nI fd) - 0) + 1) + 0))] dX10_lossOf_75 (by decide) rfl ?_
            refine r_iload 79 rfl dX10_lossOf_77 rfl ?_
            refine r_if_ge 82 86 rfl dX10_lossOf_79 rfl (fun c79 => ?_) (fun c79 => ?_)
            · refine r_iload 88 rfl dX10_lossOf_86 rfl ?_
              refine r_ireturn rfl dX10_lossOf_88 (Nat.le_of_ble_eq_true rfl) (Nat.le_of_ble_eq_true rfl) ?_
              have hea : so_ea kd = 0 := by unfold so_ea; rw [if_neg (by omega)]
              have e : ((((nI fd) - 0) + 1) + 0) = nI (sp_loss fd (so_ea kd) wi w (g t)) := by
                rw [hea]
                unfold sp_loss sp_opp
                first | rw [if_pos c66] | rw [if_neg c66]
                revert c79
                rcases (show wi = 0 ∨ wi = 1 ∨ wi = 2 ∨ wi = 3 ∨ wi = 4 by omega) with rfl | rfl | rfl | rfl | rfl <;> rcases (show w = 1 ∨ w = 2 ∨ w = 3 ∨ w = 4 by omega) with rfl | rfl | rfl | rfl <;> first | (exfalso; first | omega | (simp [sp_opp] at c46; done)) | (rcases (show fd = 1 ∨ fd = 2 ∨ fd = 3 by omega) with rfl | rfl | rfl <;> decide +kernel)
              rw [e]
              exact k
            · refine r_iconst 83 rfl 0 dX10_lossOf_82 rfl ?_
              refine r_goto 88 dX10_lossOf_83 rfl ?_
              refine r_ireturn rfl dX10_lossOf_88 (Nat.le_of_ble_eq_true rfl) (Nat.le_of_ble_eq_true rfl) ?_
              have hea : so_ea kd = 0 := by unfold so_ea; rw [if_neg (by omega)]
              have e : (0 : Int32) = nI (sp_loss fd (so_ea kd) wi w (g t)) := by
                rw [hea]
                unfold sp_loss sp_opp
                first | rw [if_pos c66] | rw [if_neg c66]
                revert c79
                rcases (show wi = 0 ∨ wi = 1 ∨ wi = 2 ∨ wi = 3 ∨ wi = 4 by omega) with rfl | rfl | rfl | rfl | rfl <;> rcases (show w = 1 ∨ w = 2 ∨ w = 3 ∨ w = 4 by omega) with rfl | rfl | rfl | rfl <;> first | (exfalso; first | omega | (simp [sp_opp] at c46; done)) | (rcases (show fd = 1 ∨ fd = 2 ∨ fd = 3 by omega) with rfl | rfl | rfl <;> decide +kernel)
              rw [e]
              exact k
          · replace c66 : g t = 2 := (nI_eq (a := (g t)) (b := 2) (by omega) (by omega)).mp c66
            refine r_iconst 70 rfl 2 dX10_lossOf_69 rfl ?_
            refine r_goto 74 dX10_lossOf_70 rfl ?_
            refine r_iadd 75 rfl dX10_lossOf_74 ?_
            refine r_istore 77 rfl [some (.ref 37), some (.int (nI kd)), some (.int (nI w)), some (.int (nI t)), some (.int ((((nI fd) - 0) + 1) + 2))] dX10_lossOf_75 (by decide) rfl ?_
            refine r_iload 79 rfl dX10_lossOf_77 rfl ?_
            refine r_if_ge 82 86 rfl dX10_lossOf_79 rfl (fun c79 => ?_) (fun c79 => ?_)
            · refine r_iload 88 rfl dX10_lossOf_86 rfl ?_
              refine r_ireturn rfl dX10_lossOf_88 (Nat.le_of_ble_eq_true rfl) (Nat.le_of_ble_eq_true rfl) ?_
              have hea : so_ea kd = 0 := by unfold so_ea; rw [if_neg (by omega)]
              have e : ((((nI fd) - 0) + 1) + 2) = nI (sp_loss fd (so_ea kd) wi w (g t)) := by
                rw [hea]
                unfold sp_loss sp_opp
                first | rw [if_pos c66] | rw [if_neg c66]
                revert c79
                rcases (show wi = 0 ∨ wi = 1 ∨ wi = 2 ∨ wi = 3 ∨ wi = 4 by omega) with rfl | rfl | rfl | rfl | rfl <;> rcases (show w = 1 ∨ w = 2 ∨ w = 3 ∨ w = 4 by omega) with rfl | rfl | rfl | rfl <;> first | (exfalso; first | omega | (simp [sp_opp] at c46; done)) | (rcases (show fd = 1 ∨ fd = 2 ∨ fd = 3 by omega) with rfl | rfl | rfl <;> decide +kernel)
              rw [e]
              exact k
            · refine r_iconst 83 rfl 0 dX10_lossOf_82 rfl ?_
              refine r_goto 88 dX10_lossOf_83 rfl ?_
              refine r_ireturn rfl dX10_lossOf_88 (Nat.le_of_ble_eq_true rfl) (Nat.le_of_ble_eq_true rfl) ?_
              have hea : so_ea kd = 0 := by unfold so_ea; rw [if_neg (by omega)]
              have e : (0 : Int32) = nI (sp_loss fd (so_ea kd) wi w (g t)) := by
                rw [hea]
                unfold sp_loss sp_opp
                first | rw [if_pos c66] | rw [if_neg c66]
                revert c79
                rcases (show wi = 0 ∨ wi = 1 ∨ wi = 2 ∨ wi = 3 ∨ wi = 4 by omega) with rfl | rfl | rfl | rfl | rfl <;> rcases (show w = 1 ∨ w = 2 ∨ w = 3 ∨ w = 4 by omega) with rfl | rfl | rfl | rfl <;> first | (exfalso; first | omega | (simp [sp_opp] at c46; done)) | (rcases (show fd = 1 ∨ fd = 2 ∨ fd = 3 by omega) with rfl | rfl | rfl <;> decide +kernel)
              rw [e]
              exact k
    · replace c24 : w = wi := (nI_eq (a := w) (b := wi) (by omega) (by omega)).mp c24
      refine r_iconst 28 rfl (-1) dX10_lossOf_27 rfl ?_
      refine r_goto 54 dX10_lossOf_28 rfl ?_
      refine r_iadd 55 rfl dX10_lossOf_54 ?_
      refine r_istore 57 rfl [some (.ref 37), some (.int (nI kd)), some (.int (nI w)), some (.int (nI t)), some (.int (((nI fd) - 0) + (-1)))] dX10_lossOf_55 (by decide) rfl ?_
      refine r_iload 59 rfl dX10_lossOf_57 rfl ?_
      refine r_aload_n 60 rfl 0 dX10_lossOf_59 rfl rfl ?_
      refine r_getf (v := .ref 39) (k := 7) 63 rfl dX10_lossOf_60 (gf_X10_13_10 rfl) rfl rfl ?_
      refine r_iload_n 64 rfl 3 dX10_lossOf_63 rfl rfl ?_
      refine r_iald (f := m 39) 65 rfl t dX10_lossOf_64 rfl rfl (by omega) (by decide) ?_
      rw [show (m 39) t = nI (g t) from (hg t ht).1]
      refine r_iconst 66 rfl 2 dX10_lossOf_65 rfl ?_
      refine r_icmp_ne 69 73 rfl dX10_lossOf_66 rfl (fun c66 => ?_) (fun c66 => ?_)
      · replace c66 : ¬ (g t) = 2 := fun q__ => c66 ((nI_eq (a := (g t)) (b := 2) (by omega) (by omega)).mpr q__)
        refine r_iconst 74 rfl 0 dX10_lossOf_73 rfl ?_
        refine r_iadd 75 rfl dX10_lossOf_74 ?_
        refine r_istore 77 rfl [some (.ref 37), some (.int (nI kd)), some (.int (nI w)), some (.int (nI t)), some (.int ((((nI fd) - 0) + (-1)) + 0))] dX10_lossOf_75 (by decide) rfl ?_
        refine r_iload 79 rfl dX10_lossOf_77 rfl ?_
        refine r_if_ge 82 86 rfl dX10_lossOf_79 rfl (fun c79 => ?_) (fun c79 => ?_)
        · refine r_iload 88 rfl dX10_lossOf_86 rfl ?_
          refine r_ireturn rfl dX10_lossOf_88 (Nat.le_of_ble_eq_true rfl) (Nat.le_of_ble_eq_true rfl) ?_
          have hea : so_ea kd = 0 := by unfold so_ea; rw [if_neg (by omega)]
          have e : ((((nI fd) - 0) + (-1)) + 0) = nI (sp_loss fd (so_ea kd) wi w (g t)) := by
            rw [hea]
            unfold sp_loss sp_opp
            first | rw [if_pos c66] | rw [if_neg c66]
            revert c79
            rcases (show wi = 0 ∨ wi = 1 ∨ wi = 2 ∨ wi = 3 ∨ wi = 4 by omega) with rfl | rfl | rfl | rfl | rfl <;> rcases (show w = 1 ∨ w = 2 ∨ w = 3 ∨ w = 4 by omega) with rfl | rfl | rfl | rfl <;> first | (exfalso; first | omega | (simp [sp_opp] at c46; done)) | (rcases (show fd = 1 ∨ fd = 2 ∨ fd = 3 by omega) with rfl | rfl | rfl <;> decide +kernel)
          rw [e]
          exact k
        · refine r_iconst 83 rfl 0 dX10_lossOf_82 rfl ?_
          refine r_goto 88 dX10_lossOf_83 rfl ?_
          refine r_ireturn rfl dX10_lossOf_88 (Nat.le_of_ble_eq_true rfl) (Nat.le_of_ble_eq_true rfl) ?_
          have hea : so_ea kd = 0 := by unfold so_ea; rw [if_neg (by omega)]
          have e : (0 : Int32) = nI (sp_loss fd (so_ea kd) wi w (g t)) := by
            rw [hea]
            unfold sp_loss sp_opp
            first | rw [if_pos c66] | rw [if_neg c66]
            revert c79
            rcases (show wi = 0 ∨ wi = 1 ∨ wi = 2 ∨ wi = 3 ∨ wi = 4 by omega) with rfl | rfl | rfl | rfl | rfl <;> rcases (show w = 1 ∨ w = 2 ∨ w = 3 ∨ w = 4 by omega) with rfl | rfl | rfl | rfl <;> first | (exfalso; first | omega | (simp [sp_opp] at c46; done)) | (rcases (show fd = 1 ∨ fd = 2 ∨ fd = 3 by omega) with rfl | rfl | rfl <;> decide +kernel)
          rw [e]
          exact k
      · replace c66 : g t = 2 := (nI_eq (a := (g t)) (b := 2) (by omega) (by omega)).mp c66
        refine r_iconst 70 rfl 2 dX10_lossOf_69 rfl ?_
        refine r_goto 74 dX10_lossOf_70 rfl ?_
        refine r_iadd 75 rfl dX10_lossOf_74 ?_
        refine r_istore 77 rfl [some (.ref 37), some (.int (nI kd)), some (.int (nI w)), some (.int (nI t)), some (.int ((((nI fd) - 0) + (-1)) + 2))] dX10_lossOf_75 (by decide) rfl ?_
        refine r_iload 79 rfl dX10_lossOf_77 rfl ?_
        refine r_if_ge 82 86 rfl dX10_lossOf_79 rfl (fun c79 => ?_) (fun c79 => ?_)
        · refine r_iload 88 rfl dX10_lossOf_86 rfl ?_
          refine r_ireturn rfl dX10_lossOf_88 (Nat.le_of_ble_eq_true rfl) (Nat.le_of_ble_eq_true rfl) ?_
          have hea : so_ea kd = 0 := by unfold so_ea; rw [if_neg (by omega)]
          have e : ((((nI fd) - 0) + (-1)) + 2) = nI (sp_loss fd (so_ea kd) wi w (g t)) := by
            rw [hea]
            unfold sp_loss sp_opp
            first | rw [if_pos c66] | rw [if_neg c66]
            revert c79
            rcases (show wi = 0 ∨ wi = 1 ∨ wi = 2 ∨ wi = 3 ∨ wi = 4 by omega) with rfl | rfl | rfl | rfl | rfl <;> rcases (show w = 1 ∨ w = 2 ∨ w = 3 ∨ w = 4 by omega) with rfl | rfl | rfl | rfl <;> first | (exfalso; first | omega | (simp [sp_opp] at c46; done)) | (rcases (show fd = 1 ∨ fd = 2 ∨ fd = 3 by omega) with rfl | rfl | rfl <;> decide +kernel)
          rw [e]
          exact k
        · refine r_iconst 83 rfl 0 dX10_lossOf_82 rfl ?_
          refine r_goto 88 dX10_lossOf_83 rfl ?_
          refine r_ireturn rfl dX10_lossOf_88 (Nat.le_of_ble_eq_true rfl) (Nat.le_of_ble_eq_true rfl) ?_
          have hea : so_ea kd = 0 := by unfold so_ea; rw [if_neg (by omega)]
          have e : (0 : Int32) = nI (sp_loss fd (so_ea kd) wi w (g t)) := by
            rw [hea]
            unfold sp_loss sp_opp
            first | rw [if_pos c66] | rw [if_neg c66]
            revert c79
            rcases (show wi = 0 ∨ wi = 1 ∨ wi = 2 ∨ wi = 3 ∨ wi = 4 by omega) with rfl | rfl | rfl | rfl | rfl <;> rcases (show w = 1 ∨ w = 2 ∨ w = 3 ∨ w = 4 by omega) with rfl | rfl | rfl | rfl <;> first | (exfalso; first | omega | (simp [sp_opp] at c46; done)) | (rcases (show fd = 1 ∨ fd = 2 ∨ fd = 3 by omega) with rfl | rfl | rfl <;> decide +kernel)
          rw [e]
          exact k
  · replace c6 : ¬ kd ≤ 2 := fun q__ => c6 ((nI_leI (a := kd) (b := 2) (by omega) (by omega)).mpr q__)
    refine r_iconst 10 rfl 1 dX10_lossOf_9 rfl ?_
    refine r_goto 14 dX10_lossOf_10 rfl ?_
    refine r_isub 15 rfl dX10_lossOf_14 ?_
    refine r_istore 17 rfl [some (.ref 37), some (.int (nI kd)), some (.int (nI w)), some (.int (nI t)), some (.int ((nI fd) - 1))] dX10_lossOf_15 (by decide) rfl ?_
    refine r_iload 19 rfl dX10_lossOf_17 rfl ?_
    refine r_iload_n 20 rfl 2 dX10_lossOf_19 rfl rfl ?_
    refine r_aload_n 21 rfl 0 dX10_lossOf_20 rfl rfl ?_
    refine r_getf (v := .int ((m 37) 3)) (k := 3) 24 rfl dX10_lossOf_21 (gf_X10_86_10 rfl) rfl rfl ?_
    rw [show (m 37) 3 = nI wi from hwi]
    refine r_icmp_ne 27 31 rfl dX10_lossOf_24 rfl (fun c24 => ?_) (fun c24 => ?_)
    · replace c24 : ¬ w = wi := fun q__ => c24 ((nI_eq (a := w) (b := wi) (by omega) (by omega)).mpr q__)
      refine r_aload_n 32 rfl 0 dX10_lossOf_31 rfl rfl ?_
      refine r_getf (v := .int ((m 37) 3)) (k := 3) 35 rfl dX10_lossOf_32 (gf_X10_86_10 rfl) rfl rfl ?_
      rw [show (m 37) 3 = nI wi from hwi]
      refine r_if_le 38 53 rfl dX10_lossOf_35 rfl (fun c35 => ?_) (fun c35 => ?_)
      · replace c35 : wi ≤ 0 := (nI_leI (a := wi) (b := 0) (by omega) (by omega)).mp c35
        refine r_iconst 54 rfl 0 dX10_lossOf_53 rfl ?_
        refine r_iadd 55 rfl dX10_lossOf_54 ?_
        refine r_istore 57 rfl [some (.ref 37), some (.int (nI kd)), some (.int (nI w)), some (.int (nI t)), some (.int (((nI fd) - 1) + 0))] dX10_lossOf_55 (by decide) rfl ?_
        refine r_iload 59 rfl dX10_lossOf_57 rfl ?_
        refine r_aload_n 60 rfl 0 dX10_lossOf_59 rfl rfl ?_
        refine r_getf (v := .ref 39) (k := 7) 63 rfl dX10_lossOf_60 (gf_X10_13_10 rfl) rfl rfl ?_
        refine r_iload_n 64 rfl 3 dX10_lossOf_63 rfl rfl ?_
        refine r_iald (f := m 39) 65 rfl t dX10_lossOf_64 rfl rfl (by omega) (by decide) ?_
        rw [show (m 39) t = nI (g t) from (hg t ht).1]
        refine r_iconst 66 rfl 2 dX10_lossOf_65 rfl ?_
        refine r_icmp_ne 69 73 rfl dX10_lossOf_66 rfl (fun c66 => ?_) (fun c66 => ?_)
        · replace c66 : ¬ (g t) = 2 := fun q__ => c66 ((nI_eq (a := (g t)) (b := 2) (by omega) (by omega)).mpr q__)
          refine r_iconst 74 rfl 0 dX10_lossOf_73 rfl ?_
          refine r_iadd 75 rfl dX10_lossOf_74 ?_
          refine r_istore 77 rfl [some (.ref 37), some (.int (nI kd)), some (.int (nI w)), some (.int (nI t)), some (.int ((((nI fd) - 1) + 0) + 0))] dX10_lossOf_75 (by decide) rfl ?_
          refine r_iload 79 rfl dX10_lossOf_77 rfl ?_
          refine r_if_ge 82 86 rfl dX10_lossOf_79 rfl (fun c79 => ?_) (fun c79 => ?_)
          · refine r_iload 88 rfl dX10_lossOf_86 rfl ?_
            refine r_ireturn rfl dX10_lossOf_88 (Nat.le_of_ble_eq_true rfl) (Nat.le_of_ble_eq_true rfl) ?_
            have hea : so_ea kd = 1 := by unfold so_ea; rw [if_pos (by omega)]
            have e : ((((nI fd) - 1) + 0) + 0) = nI (sp_loss fd (so_ea kd) wi w (g t)) := by
              rw [hea]
              unfold sp_loss sp_opp
              first | rw [if_pos c66] | rw [if_neg c66]
              revert c79
              rcases (show wi = 0 ∨ wi = 1 ∨ wi = 2 ∨ wi = 3 ∨ wi = 4 by omega) with rfl | rfl | rfl | rfl | rfl <;> rcases (show w = 1 ∨ w = 2 ∨ w = 3 ∨ w = 4 by omega) with rfl | rfl | rfl | rfl <;> first | (exfalso; first | omega | (simp [sp_opp] at c46; done)) | (rcases (show fd = 1 ∨ fd = 2 ∨ fd = 3 by omega) with rfl | rfl | rfl <;> decide +kernel)
            rw [e]
            exact k
          · refine r_iconst 83 rfl 0 dX10_lossOf_82 rfl ?_
            refine r_goto 88 dX10_lossOf_83 rfl ?_
            refine r_ireturn rfl dX10_lossOf_88 (Nat.le_of_ble_eq_true rfl) (Nat.le_of_ble_eq_true rfl) ?_
            have hea : so_ea kd = 1 := by unfold so_ea; rw [if_pos (by omega)]
            have e : (0 : Int32) = nI (sp_loss fd (so_ea kd) wi w (g t)) := by
              rw [hea]
              unfold sp_loss sp_opp
              first | rw [if_pos c66] | rw [if_neg c66]
              revert c79
              rcases (show wi = 0 ∨ wi = 1 ∨ wi = 2 ∨ wi = 3 ∨ wi = 4 by omega) with rfl | rfl | rfl | rfl | rfl <;> rcases (show w = 1 ∨ w = 2 ∨ w = 3 ∨ w = 4 by omega) with rfl | rfl | rfl | rfl <;> first | (exfalso; first | omega | (simp [sp_opp] at c46; done)) | (rcases (show fd = 1 ∨ fd = 2 ∨ fd = 3 by omega) with rfl | rfl | rfl <;> decide +kernel)
            rw [e]
            exact k
        · replace c66 : g t = 2 := (nI_eq (a := (g t)) (b := 2) (by omega) (by omega)).mp c66
          refine r_iconst 70 rfl 2 dX10_lossOf_69 rfl ?_
          refine r_goto 74 dX10_lossOf_70 rfl ?_
          refine r_iadd 75 rfl dX10_lossOf_74 ?_
          refine r_istore 77 rfl [some (.ref 37), some (.int (nI kd)), some (.int (nI w)), some (.int (nI t)), some (.int ((((nI fd) - 1) + 0) + 2))] dX10_lossOf_75 (by decide) rfl ?_
          refine r_iload 79 rfl dX10_lossOf_77 rfl ?_
          refine r_if_ge 82 86 rfl dX10_lossOf_79 rfl (fun c79 => ?_) (fun c79 => ?_)
          · refine r_iload 88 rfl dX10_lossOf_86 rfl ?_
            refine r_ireturn rfl dX10_lossOf_88 (Nat.le_of_ble_eq_true rfl) (Nat.le_of_ble_eq_true rfl) ?_
            have hea : so_ea kd = 1 := by unfold so_ea; rw [if_pos (by omega)]
            have e : ((((nI fd) - 1) + 0) + 2) = nI (sp_loss fd (so_ea kd) wi w (g t)) := by
              rw [hea]
              unfold sp_loss sp_opp
              first | rw [if_pos c66] | rw [if_neg c66]
              revert c79
              rcases (show wi = 0 ∨ wi = 1 ∨ wi = 2 ∨ wi = 3 ∨ wi = 4 by omega) with rfl | rfl | rfl | rfl | rfl <;> rcases (show w = 1 ∨ w = 2 ∨ w = 3 ∨ w = 4 by omega) with rfl | rfl | rfl | rfl <;> first | (exfalso; first | omega | (simp [sp_opp] at c46; done)) | (rcases (show fd = 1 ∨ fd = 2 ∨ fd = 3 by omega) with rfl | rfl | rfl <;> decide +kernel)
            rw [e]
            exact k
          · refine r_iconst 83 rfl 0 dX10_lossOf_82 rfl ?_
            refine r_goto 88 dX10_lossOf_83 rfl ?_
            refine r_ireturn rfl dX10_lossOf_88 (Nat.le_of_ble_eq_true rfl) (Nat.le_of_ble_eq_true rfl) ?_
            have hea : so_ea kd = 1 := by unfold so_ea; rw [if_pos (by omega)]
            have e : (0 : Int32) = nI (sp_loss fd (so_ea kd) wi w (g t)) := by
              rw [hea]
              unfold sp_loss sp_opp
              first | rw [if_pos c66] | rw [if_neg c66]
              revert c79
              rcases (show wi = 0 ∨ wi = 1 ∨ wi = 2 ∨ wi = 3 ∨ wi = 4 by omega) with rfl | rfl | rfl | rfl | rfl <;> rcases (show w = 1 ∨ w = 2 ∨ w = 3 ∨ w = 4 by omega) with rfl | rfl | rfl | rfl <;> first | (exfalso; first | omega | (simp [sp_opp] at c46; done)) | (rcases (show fd = 1 ∨ fd = 2 ∨ fd = 3 by omega) with rfl | rfl | rfl <;> decide +kernel)
            rw [e]
            exact k
      · replace c35 : ¬ wi ≤ 0 := fun q__ => c35 ((nI_leI (a := wi) (b := 0) (by omega) (by omega)).mpr q__)
        refine r_iload_n 39 rfl 2 dX10_lossOf_38 rfl rfl ?_
        refine r_aload_n 40 rfl 0 dX10_lossOf_39 rfl rfl ?_
        refine r_getf (v := .int ((m 37) 3)) (k := 3) 43 rfl dX10_lossOf_40 (gf_X10_86_10 rfl) rfl rfl ?_
        rw [show (m 37) 3 = nI wi from hwi]
        refine q_S 46 0 0 rfl [.int (nI wi)] rfl dX10_lossOf_43 cl_X10_lossOf__X10_against (lk_X10_127 rfl) st_X10_against (Nat.le_of_ble_eq_true rfl) (fun _ _ => Nat.le_of_ble_eq_true rfl) rfl rfl (Nat.le_of_ble_eq_true rfl) (Nat.le_of_ble_eq_true rfl) ?_
        refine c_X10_against hwi4 (k_i ?_)
        refine r_icmp_ne 49 53 rfl dX10_lossOf_46 rfl (fun c46 => ?_) (fun c46 => ?_)
        · replace c46 : ¬ w = (if wi = 0 then 0 else sp_opp wi) := fun q__ => c46 ((nI_eq (a := w) (b := (if wi = 0 then 0 else sp_opp wi)) (by omega) (by omega)).mpr q__)
          refine r_iconst 54 rfl 0 dX10_lossOf_53 rfl ?_
          refine r_iadd 55 rfl dX10_lossOf_54 ?_
          refine r_istore 57 rfl [some (.ref 37), some (.int (nI kd)), some (.int (nI w)), some (.int (nI t)), some (.int (((nI fd) - 1) + 0))] dX10_lossOf_55 (by decide) rfl ?_
          refine r_iload 59 rfl dX10_lossOf_57 rfl ?_
          refine r_aload_n 60 rfl 0 dX10_lossOf_59 rfl rfl ?_
          refine r_getf (v := .ref 39) (k := 7) 63 rfl dX10_lossOf_60 (gf_X10_13_10 rfl) rfl rfl ?_
          refine r_iload_n 64 rfl 3 dX10_lossOf_63 rfl rfl ?_
          refine r_iald (f := m 39) 65 rfl t dX10_lossOf_64 rfl rfl (by omega) (by decide) ?_
          rw [show (m 39) t = nI (g t) from (hg t ht).1]
          refine r_iconst 66 rfl 2 dX10_lossOf_65 rfl ?_
          refine r_icmp_ne 69 73 rfl dX10_lossOf_66 rfl (fun c66 => ?_) (fun c66 => ?_)
          · replace c66 : ¬ (g t) = 2 := fun q__ => c66 ((nI_eq (a := (g t)) (b := 2) (by omega) (by omega)).mpr q__)
            refine r_iconst 74 rfl 0 dX10_lossOf_73 rfl ?_
            refine r_iadd 75 rfl dX10_lossOf_74 ?_
            refine r_istore 77 rfl [some (.ref 37), some (.int (nI kd)), some (.int (nI w)), some (.int (nI t)), some (.int ((((nI fd) - 1) + 0) + 0))] dX10_lossOf_75 (by decide) rfl ?_
            refine r_iload 79 rfl dX10_lossOf_77 rfl ?_
            refine r_if_ge 82 86 rfl dX10_lossOf_79 rfl (fun c79 => ?_) (fun c79 => ?_)
            · refine r_iload 88 rfl dX10_lossOf_86 rfl ?_
              refine r_ireturn rfl dX10_lossOf_88 (Nat.le_of_ble_eq_true rfl) (Nat.le_of_ble_eq_true rfl) ?_
              have hea : so_ea kd = 1 := by unfold so_ea; rw [if_pos (by omega)]
              have e : ((((nI fd) - 1) + 0) + 0) = nI (sp_loss fd (so_ea kd) wi w (g t)) := by
                rw [hea]
                unfold sp_loss sp_opp
                first | rw [if_pos c66] | rw [if_neg c66]
                revert c79
                rcases (show wi = 0 ∨ wi = 1 ∨ wi = 2 ∨ wi = 3 ∨ wi = 4 by omega) with rfl | rfl | rfl | rfl | rfl <;> rcases (show w = 1 ∨ w = 2 ∨ w = 3 ∨ w = 4 by omega) with rfl | rfl | rfl | rfl <;> first | (exfalso; first | omega | (simp [sp_opp] at c46; done)) | (rcases (show fd = 1 ∨ fd = 2 ∨ fd = 3 by omega) with rfl | rfl | rfl <;> decide +kernel)
              rw [e]
              exact k
            · refine r_iconst 83 rfl 0 dX10_lossOf_82 rfl ?_
              refine r_goto 88 dX10_lossOf_83 rfl ?_
              refine r_ireturn rfl dX10_lossOf_88 (Nat.le_of_ble_eq_true rfl) (Nat.le_of_ble_eq_true rfl) ?_
              have hea : so_ea kd = 1 := by unfold so_ea; rw [if_pos (by omega)]
              have e : (0 : Int32) = nI (sp_loss fd (so_ea kd) wi w (g t)) := by
                rw [hea]
                unfold sp_loss sp_opp
                first | rw [if_pos c66] | rw [if_neg c66]
                revert c79
                rcases (show wi = 0 ∨ wi = 1 ∨ wi = 2 ∨ wi = 3 ∨ wi = 4 by omega) with rfl | rfl | rfl | rfl | rfl <;> rcases (show w = 1 ∨ w = 2 ∨ w = 3 ∨ w = 4 by omega) with rfl | rfl | rfl | rfl <;> first | (exfalso; first | omega | (simp [sp_opp] at c46; done)) | (rcases (show fd = 1 ∨ fd = 2 ∨ fd = 3 by omega) with rfl | rfl | rfl <;> decide +kernel)
              rw [e]
              exact k
          · replace c66 : g t = 2 := (nI_eq (a := (g t)) (b := 2) (by omega) (by omega)).mp c66
            refine r_iconst 70 rfl 2 dX10_lossOf_69 rfl ?_
            refine r_goto 74 dX10_lossOf_70 rfl ?_
            refine r_iadd 75 rfl dX10_lossOf_74 ?_
            refine r_istore 77 rfl [some (.ref 37), some (.int (nI kd)), some (.int (nI w)), some (.int (nI t)), some (.int ((((nI fd) - 1) + 0) + 2))] dX10_lossOf_75 (by decide) rfl ?_
            refine r_iload 79 rfl dX10_lossOf_77 rfl ?_
            refine r_if_ge 82 86 rfl dX10_lossOf_79 rfl (fun c79 => ?_) (fun c79 => ?_)
            · refine r_iload 88 rfl dX10_lossOf_86 rfl ?_
              refine r_ireturn rfl dX10_lossOf_88 (Nat.le_of_ble_eq_true rfl) (Nat.le_of_ble_eq_true rfl) ?_
              have hea : so_ea kd = 1 := by unfold so_ea; rw [if_pos (by omega)]
              have e : ((((nI fd) - 1) + 0) + 2) = nI (sp_loss fd (so_ea kd) wi w (g t)) := by
                rw [hea]
                unfold sp_loss sp_opp
                first | rw [if_pos c66] | rw [if_neg c66]
                revert c79
                rcases (show wi = 0 ∨ wi = 1 ∨ wi = 2 ∨ wi = 3 ∨ wi = 4 by omega) with rfl | rfl | rfl | rfl | rfl <;> rcases (show w = 1 ∨ w = 2 ∨ w = 3 ∨ w = 4 by omega) with rfl | rfl | rfl | rfl <;> first | (exfalso; first | omega | (simp [sp_opp] at c46; done)) | (rcases (show fd = 1 ∨ fd = 2 ∨ fd = 3 by omega) with rfl | rfl | rfl <;> decide +kernel)
              rw [e]
              exact k
            · refine r_iconst 83 rfl 0 dX10_lossOf_82 rfl ?_
              refine r_goto 88 dX10_lossOf_83 rfl ?_
              refine r_ireturn rfl dX10_lossOf_88 (Nat.le_of_ble_eq_true rfl) (Nat.le_of_ble_eq_true rfl) ?_
              have hea : so_ea kd = 1 := by unfold so_ea; rw [if_pos (by omega)]
              have e : (0 : Int32) = nI (sp_loss fd (so_ea kd) wi w (g t)) := by
                rw [hea]
                unfold sp_loss sp_opp
                first | rw [if_pos c66] | rw [if_neg c66]
                revert c79
                rcases (show wi = 0 ∨ wi = 1 ∨ wi = 2 ∨ wi = 3 ∨ wi = 4 by omega) with rfl | rfl | rfl | rfl | rfl <;> rcases (show w = 1 ∨ w = 2 ∨ w = 3 ∨ w = 4 by omega) with rfl | rfl | rfl | rfl <;> first | (exfalso; first | omega | (simp [sp_opp] at c46; done)) | (rcases (show fd = 1 ∨ fd = 2 ∨ fd = 3 by omega) with rfl | rfl | rfl <;> decide +kernel)
              rw [e]
              exact k
        · replace c46 : w = if wi = 0 then 0 else sp_opp wi := (nI_eq (a := w) (b := (if wi = 0 then 0 else sp_opp wi)) (by omega) (by omega)).mp c46
          refine r_iconst 50 rfl 1 dX10_lossOf_49 rfl ?_
          refine r_goto 54 dX10_lossOf_50 rfl ?_
          refine r_iadd 55 rfl dX10_lossOf_54 ?_
          refine r_istore 57 rfl [some (.ref 37), some (.int (nI kd)), some (.int (nI w)), some (.int (nI t)), some (.int (((nI fd) - 1) + 1))] dX10_lossOf_55 (by decide) rfl ?_
          refine r_iload 59 rfl dX10_lossOf_57 rfl ?_
          refine r_aload_n 60 rfl 0 dX10_lossOf_59 rfl rfl ?_
          refine r_getf (v := .ref 39) (k := 7) 63 rfl dX10_lossOf_60 (gf_X10_13_10 rfl) rfl rfl ?_
          refine r_iload_n 64 rfl 3 dX10_lossOf_63 rfl rfl ?_
          refine r_iald (f := m 39) 65 rfl t dX10_lossOf_64 rfl rfl (by omega) (by decide) ?_
          rw [show (m 39) t = nI (g t) from (hg t ht).1]
          refine r_iconst 66 rfl 2 dX10_lossOf_65 rfl ?_
          refine r_icmp_ne 69 73 rfl dX10_lossOf_66 rfl (fun c66 => ?_) (fun c66 => ?_)
          · replace c66 : ¬ (g t) = 2 := fun q__ => c66 ((nI_eq (a := (g t)) (b := 2) (by omega) (by omega)).mpr q__)
            refine r_iconst 74 rfl 0 dX10_lossOf_73 rfl ?_
            refine r_iadd 75 rfl dX10_lossOf_74 ?_
            refine r_istore 77 rfl [some (.ref 37), some (.int (nI kd)), some (.int (nI w)), some (.int (nI t)), some (.int ((((nI fd) - 1) + 1) + 0))] dX10_lossOf_75 (by decide) rfl ?_
            refine r_iload 79 rfl dX10_lossOf_77 rfl ?_
            refine r_if_ge 82 86 rfl dX10_lossOf_79 rfl (fun c79 => ?_) (fun c79 => ?_)
            · refine r_iload 88 rfl dX10_lossOf_86 rfl ?_
              refine r_ireturn rfl dX10_lossOf_88 (Nat.le_of_ble_eq_true rfl) (Nat.le_of_ble_eq_true rfl) ?_
              have hea : so_ea kd = 1 := by unfold so_ea; rw [if_pos (by omega)]
              have e : ((((nI fd) - 1) + 1) + 0) = nI (sp_loss fd (so_ea kd) wi w (g t)) := by
                rw [hea]
                unfold sp_loss sp_opp
                first | rw [if_pos c66] | rw [if_neg c66]
                revert c79
                rcases (show wi = 0 ∨ wi = 1 ∨ wi = 2 ∨ wi = 3 ∨ wi = 4 by omega) with rfl | rfl | rfl | rfl | rfl <;> rcases (show w = 1 ∨ w = 2 ∨ w = 3 ∨ w = 4 by omega) with rfl | rfl | rfl | rfl <;> first | (exfalso; first | omega | (simp [sp_opp] at c46; done)) | (rcases (show fd = 1 ∨ fd = 2 ∨ fd = 3 by omega) with rfl | rfl | rfl <;> decide +kernel)
              rw [e]
              exact k
            · refine r_iconst 83 rfl 0 dX10_lossOf_82 rfl ?_
              refine r_goto 88 dX10_lossOf_83 rfl ?_
              refine r_ireturn rfl dX10_lossOf_88 (Nat.le_of_ble_eq_true rfl) (Nat.le_of_ble_eq_true rfl) ?_
              have hea : so_ea kd = 1 := by unfold so_ea; rw [if_pos (by omega)]
              have e : (0 : Int32) = nI (sp_loss fd (so_ea kd) wi w (g t)) := by
                rw [hea]
                unfold sp_loss sp_opp
                first | rw [if_pos c66] | rw [if_neg c66]
                revert c79
                rcases (show wi = 0 ∨ wi = 1 ∨ wi = 2 ∨ wi = 3 ∨ wi = 4 by omega) with rfl | rfl | rfl | rfl | rfl <;> rcases (show w = 1 ∨ w = 2 ∨ w = 3 ∨ w = 4 by omega) with rfl | rfl | rfl | rfl <;> first | (exfalso; first | omega | (simp [sp_opp] at c46; done)) | (rcases (show fd = 1 ∨ fd = 2 ∨ fd = 3 by omega) with rfl | rfl | rfl <;> decide +kernel)
              rw [e]
              exact k
          · replace c66 : g t = 2 := (nI_eq (a := (g t)) (b := 2) (by omega) (by omega)).mp c66
            refine r_iconst 70 rfl 2 dX10_lossOf_69 rfl ?_
            refine r_goto 74 dX10_lossOf_70 rfl ?_
            refine r_iadd 75 rfl dX10_lossOf_74 ?_
            refine r_istore 77 rfl [some (.ref 37), some (.int (nI kd)), some (.int (nI w)), some (.int (nI t)), some (.int ((((nI fd) - 1) + 1) + 2))] dX10_lossOf_75 (by decide) rfl ?_
            refine r_iload 79 rfl dX10_lossOf_77 rfl ?_
            refine r_if_ge 82 86 rfl dX10_lossOf_79 rfl (fun c79 => ?_) (fun c79 => ?_)
            · refine r_iload 88 rfl dX10_lossOf_86 rfl ?_
              refine r_ireturn rfl dX10_lossOf_88 (Nat.le_of_ble_eq_true rfl) (Nat.le_of_ble_eq_true rfl) ?_
              have hea : so_ea kd = 1 := by unfold so_ea; rw [if_pos (by omega)]
              have e : ((((nI fd) - 1) + 1) + 2) = nI (sp_loss fd (so_ea kd) wi w (g t)) := by
                rw [hea]
                unfold sp_loss sp_opp
                first | rw [if_pos c66] | rw [if_neg c66]
                revert c79
                rcases (show wi = 0 ∨ wi = 1 ∨ wi = 2 ∨ wi = 3 ∨ wi = 4 by omega) with rfl | rfl | rfl | rfl | rfl <;> rcases (show w = 1 ∨ w = 2 ∨ w = 3 ∨ w = 4 by omega) with rfl | rfl | rfl | rfl <;> first | (exfalso; first | omega | (simp [sp_opp] at c46; done)) | (rcases (show fd = 1 ∨ fd = 2 ∨ fd = 3 by omega) with rfl | rfl | rfl <;> decide +kernel)
              rw [e]
              exact k
            · refine r_iconst 83 rfl 0 dX10_lossOf_82 rfl ?_
              refine r_goto 88 dX10_lossOf_83 rfl ?_
              refine r_ireturn rfl dX10_lossOf_88 (Nat.le_of_ble_eq_true rfl) (Nat.le_of_ble_eq_true rfl) ?_
              have hea : so_ea kd = 1 := by unfold so_ea; rw [if_pos (by omega)]
              have e : (0 : Int32) = nI (sp_loss fd (so_ea kd) wi w (g t)) := by
                rw [hea]
                unfold sp_loss sp_opp
                first | rw [if_pos c66] | rw [if_neg c66]
                revert c79
                rcases (show wi = 0 ∨ wi = 1 ∨ wi = 2 ∨ wi = 3 ∨ wi = 4 by omega) with rfl | rfl | rfl | rfl | rfl <;> rcases (show w = 1 ∨ w = 2 ∨ w = 3 ∨ w = 4 by omega) with rfl | rfl | rfl | rfl <;> first | (exfalso; first | omega | (simp [sp_opp] at c46; done)) | (rcases (show fd = 1 ∨ fd = 2 ∨ fd = 3 by omega) with rfl | rfl | rfl <;> decide +kernel)
              rw [e]
              exact k
    · replace c24 : w = wi := (nI_eq (a := w) (b := wi) (by omega) (by omega)).mp c24
      refine r_iconst 28 rfl (-1) dX10_lossOf_27 rfl ?_
      refine r_goto 54 dX10_lossOf_28 rfl ?_
      refine r_iadd 55 rfl dX10_lossOf_54 ?_
      refine r_istore 57 rfl [some (.ref 37), some (.int (nI kd)), some (.int (nI w)), some (.int (nI t)), some (.int (((nI fd) - 1) + (-1)))] dX10_lossOf_55 (by decide) rfl ?_
      refine r_iload 59 rfl dX10_lossOf_57 rfl ?_
      refine r_aload_n 60 rfl 0 dX10_lossOf_59 rfl rfl ?_
      refine r_getf (v := .ref 39) (k := 7) 63 rfl dX10_lossOf_60 (gf_X10_13_10 rfl) rfl rfl ?_
      refine r_iload_n 64 rfl 3 dX10_lossOf_63 rfl rfl ?_
      refine r_iald (f := m 39) 65 rfl t dX10_lossOf_64 rfl rfl (by omega) (by decide) ?_
      rw [show (m 39) t = nI (g t) from (hg t ht).1]
      refine r_iconst 66 rfl 2 dX10_lossOf_65 rfl ?_
      refine r_icmp_ne 69 73 rfl dX10_lossOf_66 rfl (fun c66 => ?_) (fun c66 => ?_)
      · replace c66 : ¬ (g t) = 2 := fun q__ => c66 ((nI_eq (a := (g t)) (b := 2) (by omega) (by omega)).mpr q__)
        refine r_iconst 74 rfl 0 dX10_lossOf_73 rfl ?_
        refine r_iadd 75 rfl dX10_lossOf_74 ?_
        refine r_istore 77 rfl [some (.ref 37), some (.int (nI kd)), some (.int (nI w)), some (.int (nI t)), some (.int ((((nI fd) - 1) + (-1)) + 0))] dX10_lossOf_75 (by decide) rfl ?_
        refine r_iload 79 rfl dX10_lossOf_77 rfl ?_
        refine r_if_ge 82 86 rfl dX10_lossOf_79 rfl (fun c79 => ?_) (fun c79 => ?_)
        · refine r_iload 88 rfl dX10_lossOf_86 rfl ?_
          refine r_ireturn rfl dX10_lossOf_88 (Nat.le_of_ble_eq_true rfl) (Nat.le_of_ble_eq_true rfl) ?_
          have hea : so_ea kd = 1 := by unfold so_ea; rw [if_pos (by omega)]
          have e : ((((nI fd) - 1) + (-1)) + 0) = nI (sp_loss fd (so_ea kd) wi w (g t)) := by
            rw [hea]
            unfold sp_loss sp_opp
            first | rw [if_pos c66] | rw [if_neg c66]
            revert c79
            rcases (show wi = 0 ∨ wi = 1 ∨ wi = 2 ∨ wi = 3 ∨ wi = 4 by omega) with rfl | rfl | rfl | rfl | rfl <;> rcases (show w = 1 ∨ w = 2 ∨ w = 3 ∨ w = 4 by omega) with rfl | rfl | rfl | rfl <;> first | (exfalso; first | omega | (simp [sp_opp] at c46; done)) | (rcases (show fd = 1 ∨ fd = 2 ∨ fd = 3 by omega) with rfl | rfl | rfl <;> decide +kernel)
          rw [e]
          exact k
        · refine r_iconst 83 rfl 0 dX10_lossOf_82 rfl ?_
          refine r_goto 88 dX10_lossOf_83 rfl ?_
          refine r_ireturn rfl dX10_lossOf_88 (Nat.le_of_ble_eq_true rfl) (Nat.le_of_ble_eq_true rfl) ?_
          have hea : so_ea kd = 1 := by unfold so_ea; rw [if_pos (by omega)]
          have e : (0 : Int32) = nI (sp_loss fd (so_ea kd) wi w (g t)) := by
            rw [hea]
            unfold sp_loss sp_opp
            first | rw [if_pos c66] | rw [if_neg c66]
            revert c79
            rcases (show wi = 0 ∨ wi = 1 ∨ wi = 2 ∨ wi = 3 ∨ wi = 4 by omega) with rfl | rfl | rfl | rfl | rfl <;> rcases (show w = 1 ∨ w = 2 ∨ w = 3 ∨ w = 4 by omega) with rfl | rfl | rfl | rfl <;> first | (exfalso; first | omega | (simp [sp_opp] at c46; done)) | (rcases (show fd = 1 ∨ fd = 2 ∨ fd = 3 by omega) with rfl | rfl | rfl <;> decide +kernel)
          rw [e]
          exact k
      · replace c66 : g t = 2 := (nI_eq (a := (g t)) (b := 2) (by omega) (by omega)).mp c66
        refine r_iconst 70 rfl 2 dX10_lossOf_69 rfl ?_
        refine r_goto 74 dX10_lossOf_70 rfl ?_
        refine r_iadd 75 rfl dX10_lossOf_74 ?_
        refine r_istore 77 rfl [some (.ref 37), some (.int (nI kd)), some (.int (nI w)), some (.int (nI t)), some (.int ((((nI fd) - 1) + (-1)) + 2))] dX10_lossOf_75 (by decide) rfl ?_
        refine r_iload 79 rfl dX10_lossOf_77 rfl ?_
        refine r_if_ge 82 86 rfl dX10_lossOf_79 rfl (fun c79 => ?_) (fun c79 => ?_)
        · refine r_iload 88 rfl dX10_lossOf_86 rfl ?_
          refine r_ireturn rfl dX10_lossOf_88 (Nat.le_of_ble_eq_true rfl) (Nat.le_of_ble_eq_true rfl) ?_
          have hea : so_ea kd = 1 := by unfold so_ea; rw [if_pos (by omega)]
          have e : ((((nI fd) - 1) + (-1)) + 2) = nI (sp_loss fd (so_ea kd) wi w (g t)) := by
            rw [hea]
            unfold sp_loss sp_opp
            first | rw [if_pos c66] | rw [if_neg c66]
            revert c79
            rcases (show wi = 0 ∨ wi = 1 ∨ wi = 2 ∨ wi = 3 ∨ wi = 4 by omega) with rfl | rfl | rfl | rfl | rfl <;> rcases (show w = 1 ∨ w = 2 ∨ w = 3 ∨ w = 4 by omega) with rfl | rfl | rfl | rfl <;> first | (exfalso; first | omega | (simp [sp_opp] at c46; done)) | (rcases (show fd = 1 ∨ fd = 2 ∨ fd = 3 by omega) with rfl | rfl | rfl <;> decide +kernel)
          rw [e]
          exact k
        · refine r_iconst 83 rfl 0 dX10_lossOf_82 rfl ?_
          refine r_goto 88 dX10_lossOf_83 rfl ?_
          refine r_ireturn rfl dX10_lossOf_88 (Nat.le_of_ble_eq_true rfl) (Nat.le_of_ble_eq_true rfl) ?_
          have hea : so_ea kd = 1 := by unfold so_ea; rw [if_pos (by omega)]
          have e : (0 : Int32) = nI (sp_loss fd (so_ea kd) wi w (g t)) := by
            rw [hea]
            unfold sp_loss sp_opp
            first | rw [if_pos c66] | rw [if_neg c66]
            revert c79
            rcases (show wi = 0 ∨ wi = 1 ∨ wi = 2 ∨ wi = 3 ∨ wi = 4 by omega) with rfl | rfl | rfl | rfl | rfl <;> rcases (show w = 1 ∨ w = 2 ∨ w = 3 ∨ w = 4 by omega) with rfl | rfl | rfl | rfl <;> first | (exfalso; first | omega | (simp [sp_opp] at c46; done)) | (rcases (show fd = 1 ∨ fd = 2 ∨ fd = 3 by omega) with rfl | rfl | rfl <;> decide +kernel)
          rw [e]
          exact k
